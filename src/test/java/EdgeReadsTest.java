/** Each sentence of part 2 of the terms about what an ear reads, and of promises 10 to 12 and 17, that names a boundary case. */
public final class EdgeReadsTest {
    private static final Due due = new Due();
    private static final int MIN = Integer.MIN_VALUE;
    private static final int MAX = Integer.MAX_VALUE;
    private static final long MOST = 1000000000000000L;
    private static final int S = 0;
    private static final int P = 1;
    private static final int Q = 3;
    private static final String READ = "step s takes 1 loud 3;step p takes 1 loud 0;step t takes 2 loud 3;step q takes 1 loud 4;"
        + "letter a s;letter b p;letter c t;letter d q;letter e s s s;ear x floors 0;ear y floors 0 book c b;ear z floors 9 book e;";
    private static final String STUCK = "step s takes 2 loud 3;step t takes 1 loud 5;step p takes 1 loud 0;"
        + "letter a s t;letter b s;letter c s s;ear e floors 0 book a b;ear f floors 0 book b;ear g floors 0 book c;ear h floors 9 book c;";
    private static final String TEN = "step s takes 1 loud 1;step q takes 1 loud 2;letter a s;letter b s;letter c s;letter d s;letter e s;letter f s;letter g s;"
        + "letter h s;letter i s;letter j q;ear e floors 9;ear f floors 0;";

    public static void main(String[] args) {
        ofItsBook();
        takesTheTime();
        hearsTheSame();
        missed();
        missedIsRefused();
        emptyText();
        order();
        lieThere();
        byFeet();
        stuckUpTo();
        stuckByBook();
        stuckNothingMissed();
        stuckTakesMore();
        stuckNone();
        stuckOfNoEar();
        alikeByFoot();
        alikeTime();
        alikeMoments();
        alikeIsRefused();
        most();
        lies();
        due.finish();
    }

    private static LimpCode walked(String school, int... steps) {
        LimpCode x = Due.taught(school);
        for (int step : steps) {
            if (x.step(step) < 0) {
                due.is("the test's own step " + step, -1, 0);
            }
        }
        return x;
    }

    // ---- reads

    private static void ofItsBook() {
        due.says("READS: TEXTS of its book");
        LimpCode x = walked(READ, S, P);
        due.is("reads by all letters", x.reads(0, 0), 2);
        due.lie("reads by all letters", x, 0, 1);
        due.is("reads by c and b", x.reads(1, 0), 1);
        due.lie("reads by c and b", x, 2);
    }

    private static void takesTheTime() {
        due.says("READS: whose WALK takes the TIME of that in earnest");
        for (int time = 1; time <= 12; time++) {
            LimpCode x = walked(READ);
            for (int t = 0; t < time; t++) {
                x.step(S);
            }
            due.is("letters of three in " + time, x.reads(2, 0), time % 3 == 0 ? 1 : 0);
            due.is("how many lie there", x.about(11), time % 3 == 0 ? time / 3 : 0);
        }
    }

    private static void hearsTheSame() {
        due.says("READS: in which in each MOMENT it HEARS what it HEARS in earnest");
        due.is("3", walked(READ, S).reads(0, 3), 1);
        due.is("4", walked(READ, Q).reads(0, 3), 1);
        LimpCode x = walked(READ, Q);
        due.is("4 where 3 and 0 are in the book", x.reads(1, 3), 0);
        due.lie("4 where 3 and 0 are in the book", x);
        due.is("3 in a second moment", walked(READ, S, S).reads(1, 3), 0);
        due.is("3, 3, 3", walked(READ, S, S, S).reads(0, 0), 2);
    }

    /** Texts of four moments with none, one, two, three sounds in them, counted by hand. */
    private static void missed() {
        due.says("but that in so many MOMENTS at most it HEARS something where in earnest it HEARS 0");
        int[] want = {1, 12, 49, 95};
        for (int m = 0; m <= 3; m++) {
            LimpCode x = walked(READ, P, P, P, P);
            due.is("reads(0, " + m + ")", x.reads(0, m), want[m]);
        }
        int[][] firsts = {{1, 1, 1, 1}, {0, 1, 1, 1}, {0, 0, 1, 1}, {0, 0, 0, 1}};
        for (int m = 0; m <= 3; m++) {
            LimpCode x = walked(READ, P, P, P, P);
            x.reads(0, m);
            due.lie("the first by " + m, x, firsts[m]);
        }
        LimpCode x = walked(READ, S, P);
        due.is("by one, where 3 must be heard", x.reads(0, 1), 4);
        due.is("by three, where 3 must be heard", x.reads(0, 3), 4);
        LimpCode y = walked(READ, P, P, P);
        due.is("three missed of two", y.reads(2, 2), 1);
        y = Due.taught(READ.replace("ear z floors 9", "ear z floors 0"));
        for (int i = 0; i < 3; i++) {
            y.step(P);
        }
        due.is("three missed of two to one that hears", y.reads(2, 2), 0);
        due.lie("three missed of two to one that hears", y);
        due.is("three missed of three", y.reads(2, 3), 1);
        due.lie("three missed of three", y, 4);
    }

    private static void missedIsRefused() {
        due.says("reads: NONE if one can't be .. (behind 0, NONE: nothing)");
        for (int missed : new int[] {-1, 4, 5, MIN, MAX}) {
            refused(0, missed);
        }
        for (int ear : new int[] {-1, 3, 4, MIN, MAX}) {
            refused(ear, 0);
        }
        LimpCode x = walked(READ, S, S);
        x.dealt();
        due.is("0 reads", x.reads(1, 0), 0);
        due.lie("0 reads", x);
    }

    private static void refused(int ear, int missed) {
        String call = "reads(" + ear + ", " + missed + ")";
        LimpCode x = walked(READ, S, P);
        due.is("reads(0, 0)", x.reads(0, 0), 2);
        due.is(call, x.reads(ear, missed), -1);
        due.lie(call, x);
        Twins.sameButLying(due, call, () -> walked(READ, S, P), y -> y.reads(ear, missed));
    }

    private static void emptyText() {
        due.says("(The empty TEXT is of an empty WALK.)");
        for (int missed = 0; missed <= 3; missed++) {
            for (int ear = 0; ear < 3; ear++) {
                LimpCode x = walked(READ);
                x.dealt();
                due.is("reads(" + ear + ", " + missed + ")", x.reads(ear, missed), 1);
                due.lie("reads(" + ear + ", " + missed + ")", x);
            }
        }
        LimpCode x = walked("step s takes 1 loud 1;ear e floors 0;ear f floors 9;");
        due.is("without letters", x.reads(0, 0), 1);
        x.step(0);
        due.is("without letters, of a step", x.reads(0, 3), 0);
        due.is("without letters, of a step that is not heard", x.reads(1, 3), 0);
        x.stop();
        due.is("without letters, stopped", x.reads(0, 0), 1);
    }

    private static void order() {
        due.says("TEXTS are ordered by LETTERS' numbers, the first counts most");
        // Each of these says s s: a of two, b of one.
        LimpCode x = walked("step s takes 1 loud 1;letter a s s;letter b s;ear e floors 0;ear f floors 0 book b;", 0, 0, 0);
        due.is("reads", x.reads(0, 0), 3);
        due.lie("reads", x, 0, 1);
        due.is("reads by b", x.reads(1, 0), 1);
        due.lie("reads by b", x, 1, 1, 1);
        LimpCode y = walked("step s takes 1 loud 1;letter a s;letter b s s;ear e floors 0;", 0, 0, 0);
        due.is("reads the other way", y.reads(0, 0), 3);
        due.lie("reads the other way", y, 0, 0, 0);
        // The first letter counts most, though the rest is higher by it.
        LimpCode z = walked("step s takes 1 loud 1;step t takes 1 loud 2;letter a t;letter b s t;letter c s;letter d t t;ear e floors 0;ear f floors 0 book c d;", 0, 1, 1);
        due.is("reads of three", z.reads(0, 0), 3);
        due.lie("reads of three", z, 1, 0);
        due.is("reads of three by c, d", z.reads(1, 0), 1);
        due.lie("reads of three by c, d", z, 2, 3);
        // A book's order is no order.
        LimpCode w = walked("step s takes 1 loud 1;letter a s;letter b s;ear e floors 0 book b a;", 0);
        due.is("reads by a book told backwards", w.reads(0, 0), 2);
        due.lie("reads by a book told backwards", w, 0);
    }

    private static void lieThere() {
        due.says("reads: The first lies there then");
        LimpCode x = walked(READ, S, P, S);
        due.is("reads", x.reads(0, 0), 2);
        due.lie("reads", x, 0, 1, 0);
        due.is("by one missed", x.reads(0, 1), 5);
        due.lie("by one missed", x, 0, 0, 0);
        x.stop();
        x.step(Q);
        due.is("what lay there lies there still", x.about(11), 3);
        due.is("a shorter one", x.reads(0, 0), 1);
        due.lie("a shorter one", x, 3);
    }

    private static void byFeet() {
        due.says("A TEXT is a row of LETTERS; its WALK is theirs (it is none, if a STEP can't be)");
        String school = "step s takes 1 loud 1;step l takes 1 loud 1 left;step r takes 1 loud 1 right;step w takes 1 loud 1 still;"
            + "letter a l;letter b r;letter c w;letter d l l;ear e floors 0;";
        due.is("one step", walked(school, 0).reads(0, 0), 2);
        // l r, l w, w l, w w
        LimpCode x = walked(school, 0, 0);
        due.is("two steps", x.reads(0, 0), 4);
        due.lie("two steps", x, 0, 1);
        // Behind a still one it is the same foot's turn: l w r, l r l, l r w, l w w, w l r, w l w, w w l, w w w
        due.is("three steps", walked(school, 0, 0, 0).reads(0, 0), 8);
    }

    // ---- stuck

    private static void stuckUpTo() {
        due.says("STUCK: the first MOMENT up to which (it too) the EAR would not HEAR so");
        due.is("stuck in the first", walked(STUCK, 1).stuck(0), 0);
        due.is("stuck in the last", walked(STUCK, 0, 2).stuck(0), 2);
        due.is("stuck in one between", walked(STUCK, 0, 1, 1, 1, 1).stuck(0), 3);
        due.is("stuck there, whatever comes then", walked(STUCK, 1, 0, 1, 0).stuck(0), 0);
        due.is("heard all", walked(STUCK, 0, 1, 0, 0, 1).stuck(0), -1);
        due.is("stuck behind it", walked(STUCK, 0, 1, 0, 0, 1, 1).stuck(0), 8);
        // What was read of an earlier walk is forgotten.
        LimpCode x = walked(STUCK, 0, 0, 0);
        due.is("heard all of the earlier walk", x.stuck(0), -1);
        x.stop();
        x.step(2);
        x.step(2);
        x.step(0);
        due.is("stuck in the first of the later one", x.stuck(0), 0);
    }

    private static void stuckByBook() {
        due.says("STUCK: by any TEXT of its book");
        due.is("s t by a and b", walked(STUCK, 0, 1).stuck(0), -1);
        due.is("s t by b", walked(STUCK, 0, 1).stuck(1), 2);
        due.is("s t by c", walked(STUCK, 0, 1).stuck(2), 2);
        LimpCode x = walked("step s takes 1 loud 1;ear e floors 0;ear f floors 9;", 0);
        due.is("without letters", x.stuck(0), 0);
        due.is("without letters, nothing heard", x.stuck(1), 0);
        String feet = "step s takes 1 loud 1;step l takes 1 loud 1 left;letter a l;ear e floors 0;";
        due.is("by the left foot", walked(feet, 0).stuck(0), -1);
        due.is("by the right foot", walked(feet, 0, 0).stuck(0), 1);
        due.is("by the right foot at first", walked(feet.replace("left", "right"), 0).stuck(0), 0);
        due.is("by ten letters", walked(TEN, 0, 1, 0).stuck(1), -1);
    }

    private static void stuckNothingMissed() {
        due.says("STUCK: nothing missed");
        LimpCode x = walked(STUCK, 2, 2);
        due.is("reads by one missed", x.reads(1, 1), 1);
        due.is("stuck", x.stuck(1), 0);
        LimpCode y = walked(STUCK, 0, 2, 2);
        due.is("reads by one missed, too", y.reads(1, 1), 1);
        due.is("stuck, too", y.stuck(1), 2);
    }

    private static void stuckTakesMore() {
        due.says("STUCK: whose WALK takes more MOMENTS than are ahead of that one");
        due.is("half a letter", walked(STUCK, 0).stuck(2), -1);
        due.is("it reads nothing", walked(STUCK, 0).reads(2, 0), 0);
        due.is("a letter and a half", walked(STUCK, 0, 0, 0).stuck(2), -1);
        // A text that ends ahead of a moment tells nothing of it, though nothing is heard there.
        due.is("nothing behind a letter", walked(STUCK, 0, 2).stuck(1), 2);
        due.is("nothing heard at all", walked(STUCK, 2).stuck(3), -1);
        LimpCode x = Due.taught("step s takes 1 loud 1;step n takes 7 loud 1;letter b n;ear e floors 9;");
        for (int i = 0; i < 56; i++) {
            x.step(0);
        }
        due.is("56 by sevens", x.stuck(0), -1);
        x.step(0);
        due.is("57 by sevens: no WALK takes 63", x.stuck(0), 56);
    }

    private static void stuckNone() {
        due.says("stuck: NONE if there is none");
        for (int ear = 0; ear < 4; ear++) {
            due.is("of an empty walk", walked(STUCK).stuck(ear), -1);
        }
        LimpCode x = Due.taught("step s takes 1 loud 1;letter a s s s;ear e floors 0;");
        for (int i = 1; i <= 60; i++) {
            x.step(0);
            due.is("of " + i, x.stuck(0), -1);
        }
    }

    private static void stuckOfNoEar() {
        due.says("stuck: -2 if there is no such EAR");
        for (int ear : new int[] {-1, 4, 5, MIN, MAX}) {
            due.is("stuck(" + ear + ")", walked(STUCK, 1).stuck(ear), -2);
            due.is("stuck(" + ear + ") of an empty walk", walked(STUCK).stuck(ear), -2);
        }
        due.is("stuck(0) of no ears", Due.taught("step s takes 1 loud 1;").stuck(0), -2);
        Twins.same(due, "stuck changes nothing", () -> laid(walked(STUCK, 0, 1, 1)), x -> {
            x.stuck(0);
            x.stuck(3);
            x.stuck(4);
        });
    }

    private static LimpCode laid(LimpCode x) {
        x.dealt();
        return x;
    }

    // ---- alike

    private static void alikeByFoot() {
        due.says("ALIKE of an EAR: two LETTERS (or one and itself), that can both be by a foot at first");
        LimpCode x = Due.taught("step s takes 1 loud 1;step l takes 1 loud 1 left;step r takes 1 loud 1 right;step w takes 1 loud 1 still;"
            + "letter a s;letter b l;letter c r;letter d w l;letter e s r;letter f l l;ear x floors 0;");
        int[][] by = {{1, 1}, {1, 0}, {0, 1}, {1, 0}, {1, 0}, {0, 0}};
        for (int letter = 0; letter < 6; letter++) {
            for (int foot = 0; foot < 2; foot++) {
                due.is("letter " + letter + " and itself by " + foot, x.alike(0, letter, letter, foot), by[letter][foot]);
            }
        }
        due.is("a, b by the left", x.alike(0, 0, 1, 0), 1);
        due.is("a, b by the right", x.alike(0, 0, 1, 1), 0);
        due.is("b, a by the right", x.alike(0, 1, 0, 1), 0);
        due.is("a, c by the left", x.alike(0, 0, 2, 0), 0);
        due.is("a, c by the right", x.alike(0, 2, 0, 1), 1);
        due.is("b, c by either", x.alike(0, 1, 2, 0) + x.alike(0, 1, 2, 1), 0);
        due.is("d, e by the left", x.alike(0, 3, 4, 0), 1);
        due.is("d, f by the left", x.alike(0, 3, 5, 0), 0);
    }

    private static void alikeTime() {
        due.says("ALIKE: take the same TIME");
        LimpCode x = Due.taught("step s takes 1 loud 1;step p takes 1 loud 0;step t takes 2 loud 1;letter a s;letter b s p;letter c t;letter d p;letter e p p;ear x floors 0;ear y floors 1;");
        due.is("s, s p", x.alike(0, 0, 1, 0), 0);
        due.is("s p, s", x.alike(0, 1, 0, 0), 0);
        due.is("s p, t", x.alike(0, 1, 2, 0), 1);
        due.is("p, p p", x.alike(0, 3, 4, 0), 0);
        due.is("t, p p to one that hears nothing", x.alike(1, 2, 4, 1), 1);
        due.is("t, p to one that hears nothing", x.alike(1, 2, 3, 1), 0);
    }

    private static void alikeMoments() {
        due.says("ALIKE: in which it HEARS the same, MOMENT by MOMENT");
        LimpCode x = Due.taught("step s takes 9 loud 5;step q takes 9 loud 4;step p takes 1 loud 0 still;letter a s s s s s;letter b s s s s q;letter c q s s s s;letter d s p;letter e p s;"
            + "ear w floors 0;ear x floors 4 book d;ear y floors 5;");
        due.is("the last step is less loud", x.alike(0, 0, 1, 0), 0);
        due.is("the first step is less loud", x.alike(0, 0, 2, 0), 0);
        due.is("the last step is not heard", x.alike(1, 0, 1, 0), 0);
        due.is("no step is heard", x.alike(2, 0, 1, 0), 1);
        due.is("no step is heard", x.alike(2, 2, 1, 1), 1);
        due.is("the same in another order", x.alike(0, 3, 4, 0), 0);
        due.is("both not of its book", x.alike(1, 0, 0, 0), 1);
    }

    private static void alikeIsRefused() {
        due.says("alike: NONE if one can't be");
        LimpCode x = Due.taught("step s takes 1 loud 1;letter a s;letter b s;ear e floors 0;");
        due.is("alike(0, 0, 1, 0)", x.alike(0, 0, 1, 0), 1);
        for (int n : new int[] {-1, 2, 3, 10, MIN, MAX}) {
            due.is("ear " + n, x.alike(n, 0, 1, 0), -1);
            due.is("letter a " + n, x.alike(0, n, 1, 0), -1);
            due.is("letter b " + n, x.alike(0, 0, n, 0), -1);
            due.is("foot " + n, x.alike(0, 0, 1, n), -1);
        }
        due.is("ear 1", x.alike(1, 0, 1, 0), -1);
        Twins.same(due, "alike changes nothing", () -> laid(walked(READ, S, P)), y -> {
            y.alike(0, 0, 0, 0);
            y.alike(0, 0, 9, 0);
        });
    }

    // ---- all numbers

    private static void most() {
        due.says("All numbers of TEXTS, of WALKS are 1,000,000,000,000,000 at most (that, if there are more)");
        LimpCode x = Due.taught(TEN);
        for (int i = 0; i < 14; i++) {
            x.step(0);
        }
        due.is("reads: 10 to the 14th", x.reads(0, 0), MOST / 10);
        due.is("reads: 9 to the 14th", x.reads(1, 0), 22876792454961L);
        x.step(0);
        due.is("reads: 10 to the 15th", x.reads(0, 3), MOST);
        due.is("reads: 9 to the 15th", x.reads(1, 3), 205891132094649L);
        x.step(0);
        due.is("reads: 10 to the 16th", x.reads(0, 0), MOST);
        due.is("reads: 9 to the 16th", x.reads(1, 0), MOST);
        for (int i = 16; i < 60; i++) {
            x.step(0);
        }
        due.is("reads: 10 to the 60th", x.reads(0, 1), MOST);
        due.is("60 lie there", x.about(11), 60);
        due.is("timed: 10 to the 14th", x.timed(14, -1), MOST / 10);
        due.is("timed: 10 to the 15th", x.timed(15, -1), MOST);
        due.is("timed: 10 to the 31st", x.timed(31, -1), MOST);
        due.is("meant: 10 to the 15th", x.meant(15, 0), MOST);
        due.is("meant: 10 to the 60th", x.meant(60, 0), MOST);
        x.sound(1, 3, 1, 1);
        due.is("meant: 9 times 10 to the 14th", x.meant(15, 0), MOST / 10 * 9);
        due.is("meant: 9 times 10 to the 15th", x.meant(16, 0), MOST);
        for (int i = 0; i < 60; i++) {
            x.tell(0, 0);
            x.tell(1, 0);
        }
        x.cobble(1, -1);
        due.is("doubled: 2 to the 60th", x.doubled(0, 1), MOST);
        due.is("reads of none of so many", noneOfMany(), 0);
    }

    /** The last moment alone can't be read, behind more texts than a long counts. */
    private static long noneOfMany() {
        LimpCode x = Due.taught(TEN.replace("step q takes 1 loud 2;", "step q takes 1 loud 2;step z takes 1 loud 9;") + "ear g floors 2;");
        for (int i = 0; i < 59; i++) {
            x.step(0);
        }
        x.step(2);
        return x.reads(2, 3);
    }

    // ---- lies

    private static void lies() {
        due.says("lies: The i-th LETTER or STEP of what lies there; NONE if there is none such");
        LimpCode x = walked(READ, S, P, S);
        due.is("lies(0) at first", x.lies(0), -1);
        x.reads(0, 0);
        for (int i : new int[] {-1, 3, 4, 59, 60, 61, MIN, MAX}) {
            due.is("lies(" + i + ")", x.lies(i), -1);
        }
        due.is("lies(0)", x.lies(0), 0);
        due.is("lies(1)", x.lies(1), 1);
        due.is("lies(2)", x.lies(2), 0);
        x.dealt();
        due.lie("dealt", x, 0, 1, 2, 3, 4);
        x.tell(0, 1);
        x.tell(1, 1);
        x.doubled(0, 1);
        due.lie("doubled", x, 1);
        x.dealt();
        x.secret(0, 1, -1);
        due.lie("secret", x, 1);
        x.meant(2, 0);
        due.lie("meant", x, 0, 0);
        x.doubled(0, 0);
        due.lie("nothing", x);
        LimpCode y = Due.taught(TEN);
        y.meant(60, 0);
        due.is("lies(59) of 60", y.lies(59), 0);
        due.is("lies(60) of 60", y.lies(60), -1);
        Twins.same(due, "lies changes nothing", () -> laid(walked(READ, S)), z -> {
            z.lies(0);
            z.lies(99);
        });
    }
}
