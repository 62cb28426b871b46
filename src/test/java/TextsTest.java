/** Promises 13 to 16, 18, 19: tell, hush, doubled, secret, timed, dealt. */
public final class TextsTest {
    private static final Due due = new Due();

    public static void main(String[] args) {
        tells();
        doubles();
        manyDoubles();
        secrets();
        spent();
        times();
        deals();
        due.finish();
    }

    private static void tells() {
        LimpCode x = Due.taught("step l takes 1 loud 1 left;step r takes 2 loud 1 right;step n takes 9 loud 1 still;letter a l;letter b r;letter c n n n n n;letter d l l;letter e n;");
        due.is("tell r by the left foot", x.tell(0, 1), -1);
        due.is("tell l", x.tell(0, 0), 1);
        due.is("tell l by the right foot", x.tell(0, 0), -1);
        due.is("tell r", x.tell(0, 1), 3);
        due.is("tell what can't be walked", x.tell(0, 3), -1);
        due.is("tell 45", x.tell(0, 2), 48);
        due.is("tell 93", x.tell(0, 2), -1);
        due.is("tell 57", x.tell(0, 4), 57);
        due.is("tell 66", x.tell(0, 4), -1);
        due.is("the foot is kept", x.tell(0, 0), 58);
        due.is("60", x.tell(0, 1), 60);
        due.is("61", x.tell(0, 0), -1);
        due.is("the other text", x.tell(1, 4), 9);
        due.is("tell(2, 0)", x.tell(2, 0), -1);
        due.is("tell(-1, 0)", x.tell(-1, 0), -1);
        due.is("tell(0, 5)", x.tell(1, 5), -1);
        due.is("tell(0, -1)", x.tell(1, -1), -1);
        due.is("hush", x.hush(0), 6);
        due.is("hush again", x.hush(0), 0);
        due.is("letters of the other", x.about(7), 1);
        due.is("hush(2)", x.hush(2), -1);
        due.is("hush(-1)", x.hush(-1), -1);
        due.is("the left foot again", x.tell(0, 0), 1);
        due.is("the walk is not the text's", x.about(3), 0);
    }

    private static void doubles() {
        LimpCode x = Due.taught("step s takes 1 loud 5;step t takes 1 loud 5;step q takes 2 loud 5;step p takes 1 loud 0 still;letter a s p;letter b q;letter c s;ear e floors 0;ear f floors 5;");
        due.is("doubled of two empty texts", x.doubled(0, 1), 1);
        due.lie("doubled of two empty texts", x);
        x.tell(0, 0);
        due.is("doubled of unlike times", x.doubled(0, 1), 0);
        due.lie("doubled of unlike times", x);
        x.tell(1, 1);
        due.is("doubled", x.doubled(0, 1), 3);
        due.lie("doubled", x, 0, 3);
        due.is("doubled the other way", x.doubled(1, 0), 3);
        due.is("doubled(0, 0)", x.doubled(0, 0), -1);
        due.lie("doubled(0, 0)", x);
        due.is("doubled(0, 2)", x.doubled(0, 2), -1);
        due.is("doubled(-1, 0)", x.doubled(-1, 0), -1);
        due.is("doubled(0, -1)", x.doubled(0, -1), -1);
        x.cobble(1, -5);
        due.is("doubled of cobbled steps", x.doubled(0, 1), 3);
        due.lie("doubled of cobbled steps", x, 0, 1);
        x.hush(1);
        x.tell(1, 2);
        x.tell(1, 2);
        x.cobble(0, 1);
        due.is("what can't be said at once", x.doubled(0, 1), 0);
        due.lie("what can't be said at once", x);
    }

    private static void manyDoubles() {
        LimpCode x = Due.taught("step s takes 1 loud 0;step t takes 1 loud 1 left;step u takes 1 loud 2 right;letter a s;ear e floors 2;ear f floors 3;ear g floors 1;");
        for (int i = 0; i < 49; i++) {
            x.tell(0, 0);
            x.tell(1, 0);
        }
        due.is("2 to the 49th walks", x.doubled(0, 1), 1L << 49);
        x.tell(0, 0);
        x.tell(1, 0);
        due.is("more than are counted", x.doubled(0, 1), 1000000000000000L);
        due.is("50 steps lie there", x.about(11), 50);
        due.is("the first of them", x.lies(49), 0);
        due.is("heard by the third", x.secret(0, 1, 2), 1);
        due.is("the first that it hears: its right step", x.lies(49), 2);
        due.is("behind quiet ones", x.lies(48), 0);
    }

    private static void secrets() {
        LimpCode x = Due.taught("step s takes 1 loud 1;step t takes 1 loud 2;letter a s;letter b t;ear e floors 2;ear f floors 3;ear g floors 0 book a;ear h floors 1 book a b;");
        due.is("secret of empty texts", x.secret(0, 1, 2), 0);
        due.lie("secret of empty texts", x);
        due.is("secret of empty texts by none", x.secret(0, 1, -1), 1);
        due.lie("secret of empty texts by none", x);
        x.tell(0, 0);
        due.is("secret of unlike times", x.secret(0, 1, 2), 0);
        due.is("secret of unlike times by none", x.secret(0, 1, -1), 0);
        x.tell(1, 1);
        due.is("secret", x.secret(0, 1, 2), 1);
        due.lie("secret", x, 1);
        due.is("secret by none", x.secret(0, 1, -1), 1);
        due.lie("secret by none", x, 0);
        due.is("no secret", x.secret(0, 1, 3), 0);
        due.lie("no secret", x);
        due.is("one walk, and it is read", x.secret(0, 2, 3), 0);
        due.lie("one walk, and it is read", x);
        x.tell(0, 0);
        x.tell(1, 0);
        due.is("two steps", x.secret(0, 1, 2), 1);
        due.lie("two steps", x, 0, 1);
        due.is("secret(0, 1, 0)", x.secret(0, 1, 0), -1);
        due.lie("secret(0, 1, 0)", x);
        due.is("secret(0, 1, 1)", x.secret(0, 1, 1), -1);
        due.is("secret(0, 1, 4)", x.secret(0, 1, 4), -1);
        due.is("secret(0, 1, -2)", x.secret(0, 1, -2), -1);
        due.is("secret(0, 0, 2)", x.secret(0, 0, 2), -1);
        due.is("secret(4, 0, 2)", x.secret(4, 0, 2), -1);
        due.is("secret(0, -1, 2)", x.secret(0, -1, 2), -1);
    }

    private static void spent() {
        // Ear g can read everything but the step z, which is the last; ear h hears nothing and reads all.
        LimpCode x = Due.taught("step s takes 1 loud 0;step t takes 1 loud 0;step z takes 1 loud 1;letter a s;ear e floors 2;ear f floors 3;ear g floors 0;ear h floors 9;");
        for (int i = 1; i <= 9; i++) {
            tellBoth(x, 0);
            due.is("secret of " + i, x.secret(0, 1, 2), 1);
            due.is("its last step", x.lies(i - 1), 2);
            due.is("secret to one that hears nothing, of " + i, x.secret(0, 1, 3), Math.pow(3, i) > 500 ? -2 : 0);
            due.lie("secret to one that hears nothing, of " + i, x);
        }
        exactlyFiveHundred();
        theFiveHundredth();
        theFirstIsBehindFiveHundred();
    }

    /** Quiet steps are 5 by the right foot and 4 by the left, the loud one is 1. */
    private static void exactlyFiveHundred() {
        LimpCode x = Due.taught("step a takes 1 loud 0;step b takes 1 loud 0;step c takes 1 loud 0;step d takes 1 loud 0;step e takes 1 loud 0 right;step n takes 1 loud 9;"
            + "letter q a;letter n n;ear e floors 8;ear f floors 9;ear g floors 9;");
        tellBoth(x, 1, 0, 1, 0, 1, 0, 0);
        due.is("500 walks", x.doubled(0, 1), 500);
        due.is("500 walks can all be tried", x.secret(0, 1, 2), 0);
        due.lie("500 walks can all be tried", x);
        tellBoth(x, 0);
        due.is("2500 walks", x.doubled(0, 1), 2500);
        due.is("2500 walks can't", x.secret(0, 1, 2), -2);
        due.lie("2500 walks can't", x);
    }

    /** Of 511 walks 499 begin with a quiet step; ear g reads the step x behind a quiet one alone. */
    private static void theFiveHundredth() {
        LimpCode x = Due.taught("step a takes 1 loud 0;step b takes 3 loud 0;step c takes 5 loud 0;step x takes 8 loud 1;"
            + "letter q a;letter p a x;ear e floors 2;ear f floors 3;ear g floors 0;");
        tellBoth(x, 0, 0, 0, 0, 0, 0, 0, 0, 0, 0, 0, 0, 0, 0, 0);
        due.is("511 walks", x.doubled(0, 1), 511);
        due.is("the 500th is tried", x.secret(0, 1, 2), 1);
        due.lie("the 500th is tried", x, 3, 0, 0, 0, 0, 0, 0, 0);
    }

    /** Ear g reads the step e behind n alone, so the first walk that it can't read has e at first. */
    private static void theFirstIsBehindFiveHundred() {
        LimpCode x = Due.taught("step a takes 1 loud 1;step b takes 1 loud 1;step c takes 1 loud 1;step d takes 1 loud 1;step e takes 1 loud 2;step n takes 1 loud 9;"
            + "letter q a;letter n n;letter p n e;ear e floors 8;ear f floors 9;ear g floors 0;");
        tellBoth(x, 0, 1, 0, 1, 0);
        due.is("125 walks", x.doubled(0, 1), 125);
        due.is("the 101st is secret", x.secret(0, 1, 2), 1);
        due.lie("the 101st is secret", x, 4, 5, 0, 5, 0);
        tellBoth(x, 1, 0);
        due.is("625 walks", x.doubled(0, 1), 625);
        due.is("the 501st is not tried", x.secret(0, 1, 2), -2);
    }

    private static void tellBoth(LimpCode x, int... letters) {
        for (int letter : letters) {
            x.tell(0, letter);
            x.tell(1, letter);
        }
    }

    private static void times() {
        LimpCode x = Due.taught("step s takes 1 loud 1;step t takes 2 loud 1;step w takes 1 loud 1 still;letter a s;letter b t;letter c w;letter d s s;");
        due.is("timed(0, 0)", x.timed(0, 0), 1);
        due.is("timed(1, 0)", x.timed(1, 0), 1);
        due.is("timed(1, 1)", x.timed(1, 1), 2);
        due.is("timed(1, 2)", x.timed(1, 2), 1);
        due.is("timed(2, 1)", x.timed(2, 1), 3);
        due.is("timed(2, 3)", x.timed(2, 3), 6);
        due.is("timed(2, 2)", x.timed(2, 2), 2);
        due.is("timed(-1, 0)", x.timed(-1, 0), -1);
        due.is("timed(32, -1)", x.timed(32, -1), -1);
        due.is("timed(31, 0)", x.timed(31, 0), 1);
        due.is("timed(31, 1 << 30)", x.timed(31, 1 << 30), 2);
        due.is("timed(31, 1 << 31)", x.timed(31, 1 << 31), 1);
        due.is("timed(31, all)", x.timed(31, -1) > 1000000000L ? 1 : 0, 1);
        x.dealt();
        x.timed(2, 3);
        x.timed(32, 3);
        due.is("what lies there stays", x.about(11), 4);
        LimpCode y = Due.taught("step s takes 1 loud 1;letter a s;letter b s;letter c s;letter d s;letter e s;letter f s;letter g s;letter h s;letter i s;letter j s;");
        due.is("10 to the 14th", y.timed(14, -1), 100000000000000L);
        due.is("10 to the 15th", y.timed(15, -1), 1000000000000000L);
        due.is("10 to the 31st", y.timed(31, -1), 1000000000000000L);
        LimpCode z = Due.taught("step l takes 1 loud 1 left;step r takes 1 loud 1 right;letter a l;letter b r;");
        due.is("timed by feet", z.timed(3, -1), 1);
    }

    private static void deals() {
        LimpCode x = Due.taught("step s takes 1 loud 1;step t takes 5 loud 1;step l takes 2 loud 1 left;letter a t;letter b s s s;letter c t t;letter d l;letter e l l;");
        due.is("dealt of no text", x.dealt(), 0);
        due.lie("dealt of no text", x, 0, 1, 2, 3, 4);
        x.tell(0, 2);
        x.tell(0, 2);
        x.tell(0, 0);
        due.is("dealt", x.dealt(), 2 * 2 + 3);
        due.lie("dealt", x, 1, 0, 3, 2, 4);
        due.is("nothing is changed", x.tell(0, 0), 30);
        due.is("dealt of like uses", x.dealt(), 2 * 2 + 2 * 3);
        due.lie("dealt of like uses", x, 1, 0, 3, 2, 4);
        x.tell(0, 1);
        due.is("dealt of three", x.dealt(), 2 * 2 + 2 * 3 + 4);
        due.lie("dealt of three", x, 1, 4, 3, 0, 2);
        x.hush(0);
        x.tell(0, 3);
        due.is("dealt of the shortest", x.dealt(), 2);
        due.lie("dealt of the shortest", x, 0, 1, 2, 3, 4);
        x.tell(1, 2);
        due.is("text 1 counts nothing", x.dealt(), 2);
        x.hush(0);
        due.is("nothing told", x.dealt(), 0);
    }
}
