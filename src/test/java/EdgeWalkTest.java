/** Each sentence of part 2 of the terms about walks, and of promises 6 to 9, 20, 21, 27 to 29, that names a boundary case. */
public final class EdgeWalkTest {
    private static final Due due = new Due();
    private static final int MIN = Integer.MIN_VALUE;
    private static final int MAX = Integer.MAX_VALUE;
    private static final int L = 0;
    private static final int R = 1;
    private static final int E = 2;
    private static final int W = 3;
    private static final int ONE = 4;
    private static final int NINE = 5;
    private static final String SCHOOL = "step l takes 3 loud 5 left;step r takes 2 loud 4 right;step e takes 4 loud 9;step w takes 5 loud 1 still;"
        + "step one takes 1 loud 2;step nine takes 9 loud 6 still;"
        + "letter a l r;letter b l;letter c w;letter d nine nine nine nine nine;letter f one r;letter g one;ear x floors 0;ear y floors 4;";

    public static void main(String[] args) {
        turns();
        sides();
        longestWalk();
        hears();
        emptyAtFirst();
        steps();
        stepIsRefused();
        says();
        sayIsRefused();
        stops();
        heards();
        limps();
        limpOfNone();
        cobbles();
        cobbleIsRefused();
        cobbledForAll();
        images();
        imageIsRefused();
        backs();
        backIsRefused();
        abouts();
        aboutEachEdge();
        calls();
        due.finish();
    }

    private static LimpCode taught() {
        return Due.taught(SCHOOL);
    }

    private static LimpCode walked(int... steps) {
        LimpCode x = taught();
        for (int step : steps) {
            if (x.step(step) < 0) {
                due.is("the test's own step " + step, -1, 0);
            }
        }
        return x;
    }

    private static LimpCode walkedTo(int time) {
        LimpCode x = taught();
        for (int t = 0; t < time; t++) {
            x.step(ONE);
        }
        return x;
    }

    // ---- terms, part 2

    private static void turns() {
        due.says("The foot whose turn it is is the left one at first");
        due.is("turn at first", taught().about(5), 0);
        due.is("a left step at first", taught().step(L), 3);
        due.is("a right step at first", taught().step(R), -1);
        due.says("each STEP that is not still is by it, and then it is the other one's turn");
        due.is("behind left", walked(L).about(5), 1);
        due.is("behind left, right", walked(L, R).about(5), 0);
        due.is("behind either", walked(E).about(5), 1);
        due.is("behind either twice", walked(E, E).about(5), 0);
        due.is("behind still", walked(W).about(5), 0);
        due.is("behind left, still", walked(L, W).about(5), 1);
        due.is("behind left, still, still, right", walked(L, W, NINE, R).about(5), 0);
    }

    private static void sides() {
        due.says("a STEP of left, of right can be by that foot alone");
        due.is("left by the left", walked(E, E).step(L), 11);
        due.is("left by the right", walked(E).step(L), -1);
        due.is("right by the right", walked(E).step(R), 6);
        due.is("right by the left", walked(E, E).step(R), -1);
        due.is("left by the right behind still", walked(E, W).step(L), -1);
        due.is("right by the right behind still", walked(E, W).step(R), 11);
        due.is("still by the left", walked(E, E).step(W), 13);
        due.is("still by the right", walked(E).step(W), 9);
    }

    private static void longestWalk() {
        due.says("TIME of a WALK: what its STEPS take, together: 60 MOMENTS at most");
        due.is("60 of one", walkedTo(60).about(3), 60);
        due.is("a 61st", walkedTo(60).step(ONE), -1);
        due.is("from 51 by nine", walkedTo(51).step(NINE), 60);
        due.is("from 52 by nine", walkedTo(52).step(NINE), -1);
        LimpCode x = walkedTo(60);
        due.is("heard in the last", x.heard(0, 59), 2);
        due.is("heard behind it", x.heard(0, 60), -1);
        due.is("60 steps", x.about(4), 60);
    }

    private static void hears() {
        due.says("An EAR HEARS in the first MOMENT of a STEP its loudness less the floors (0 at least), in all others 0");
        LimpCode x = walked(L, R, E, W, ONE);
        int[] below0 = {5, 0, 0, 4, 0, 9, 0, 0, 0, 1, 0, 0, 0, 0, 2};
        int[] below4 = {1, 0, 0, 0, 0, 5, 0, 0, 0, 0, 0, 0, 0, 0, 0};
        for (int m = 0; m < below0.length; m++) {
            due.is("heard(0, " + m + ")", x.heard(0, m), below0[m]);
            due.is("heard(1, " + m + ")", x.heard(1, m), below4[m]);
        }
        LimpCode y = Due.taught("step a takes 1 loud 0;step b takes 1 loud 9;step c takes 1 loud 8;ear e floors 9;ear f floors 0;");
        y.step(0);
        y.step(1);
        y.step(2);
        for (int m = 0; m < 3; m++) {
            due.is("below 9 floors, heard(0, " + m + ")", y.heard(0, m), 0);
        }
        due.is("below none, 0", y.heard(1, 0), 0);
        due.is("below none, 9", y.heard(1, 1), 9);
    }

    private static void emptyAtFirst() {
        due.says("In earnest a WALK is walked, empty at first");
        LimpCode x = taught();
        due.is("its time", x.about(3), 0);
        due.is("its steps", x.about(4), 0);
        due.is("stop", x.stop(), 0);
        due.is("heard(0, 0)", x.heard(0, 0), -1);
    }

    // ---- promises 6 to 9

    private static void steps() {
        due.says("A STEP in earnest: the TIME of the WALK then");
        LimpCode x = taught();
        due.is("step(l)", x.step(L), 3);
        due.is("step(r)", x.step(R), 5);
        due.is("step(e)", x.step(E), 9);
        due.is("step(w)", x.step(W), 14);
        due.is("step(one)", x.step(ONE), 15);
        due.is("step(nine)", x.step(NINE), 24);
        due.is("six steps", x.about(4), 6);
    }

    private static void refusedStep(String what, java.util.function.Supplier<LimpCode> made, int step) {
        Twins.same(due, what, made, x -> due.is(what, x.step(step), -1));
    }

    private static void stepIsRefused() {
        due.says("step: NONE, doing nothing, if it can't be by the foot whose turn it is");
        refusedStep("right at first", () -> walked(), R);
        refusedStep("left by the right", () -> walked(L), L);
        refusedStep("right by the left", () -> walked(L, W, R), R);
        due.says("step: NONE, doing nothing, if it would take more than 60");
        refusedStep("to 61 by one", () -> walkedTo(60), ONE);
        refusedStep("to 61 by nine", () -> walkedTo(52), NINE);
        refusedStep("to 69", () -> walkedTo(60), NINE);
        refusedStep("to 61 by left", () -> walkedTo(58), L);
        due.says("step: NONE, doing nothing, if there is none such");
        for (int step : new int[] {6, 7, -1, MIN, MAX}) {
            refusedStep("step(" + step + ")", () -> walked(L), step);
        }
        LimpCode x = Due.taught("step s takes 1 loud 1;");
        due.is("step(1) of one", x.step(1), -1);
        due.is("step(0) of one", x.step(0), 1);
        x.school();
        due.is("step(0) of none", x.step(0), -1);
    }

    private static LimpCode told(LimpCode x, int... letters) {
        for (int letter : letters) {
            if (x.tell(0, letter) < 0 || x.tell(1, letter) < 0) {
                due.is("the test's own letter " + letter, -1, 0);
            }
        }
        return x;
    }

    private static void says() {
        due.says("All STEPS of TEXT 0 or 1 in earnest: the TIME of the WALK then");
        for (int text = 0; text < 2; text++) {
            due.is("say of an empty text", taught().say(text), 0);
            due.is("say of an empty text behind a step", walked(L).say(text), 3);
            LimpCode x = told(taught(), 0, 2);
            due.is("say", x.say(text), 10);
            due.is("its steps", x.about(4), 3);
            due.is("say again", x.say(text), 20);
            due.is("its steps then", x.about(4), 6);
            due.is("heard in the last", x.heard(0, 15), 1);
            due.is("the text stays", x.about(6 + text), 2);
        }
        LimpCode x = taught();
        x.tell(0, 1);
        x.tell(1, 5);
        due.is("say(0)", x.say(0), 3);
        due.is("say(1)", x.say(1), 4);
        due.is("heard at first", x.heard(0, 0), 5);
        due.is("heard then", x.heard(0, 3), 2);
        // What can't be said at first can be said by the other foot, and the other way round.
        LimpCode y = told(walked(E, E), 0);
        due.is("say a behind two steps", y.say(0), 13);
        LimpCode z = told(walkedTo(15), 3);
        due.is("say to 60", z.say(1), 60);
    }

    private static void refusedSay(String what, java.util.function.Supplier<LimpCode> made, int text) {
        Twins.same(due, what, made, x -> due.is(what, x.say(text), -1));
    }

    private static void sayIsRefused() {
        due.says("say: NONE, doing nothing, if one of them can't be as it comes");
        for (int text = 0; text < 2; text++) {
            refusedSay("left by the right", () -> told(walked(L), 1), text);
            refusedSay("a second step by the wrong foot", () -> told(walked(E), 4), text);
            refusedSay("a step of the second letter by the wrong foot", () -> told(walked(E, W), 5, 2, 5, 0), text);
            due.says("say: NONE, doing nothing, if it would take more than 60");
            refusedSay("to 61", () -> told(walkedTo(16), 3), text);
            refusedSay("to 61 by the last step", () -> told(walkedTo(56), 0), text);
            refusedSay("to 90", () -> {
                LimpCode x = told(taught(), 3);
                x.say(0);
                return x;
            }, text);
        }
        due.says("say: NONE, doing nothing, if there is none such");
        for (int text : new int[] {-1, 2, 3, MIN, MAX}) {
            refusedSay("say(" + text + ")", () -> told(walked(L), 0), text);
        }
    }

    private static void stops() {
        due.says("The WALK in earnest is empty: what it took");
        due.is("of an empty one", taught().stop(), 0);
        due.is("of one of 60", walkedTo(60).stop(), 60);
        LimpCode x = told(walked(L, R, E), 0);
        x.cobble(L, 1);
        x.image(1);
        x.sound(0, 0, 0, 9);
        due.is("stop", x.stop(), 9);
        due.is("its time", x.about(3), 0);
        due.is("its steps", x.about(4), 0);
        due.is("the left foot's turn", x.about(5), 0);
        due.is("heard", x.heard(0, 0), -1);
        due.is("stop again", x.stop(), 0);
        due.is("cobbled still", x.cobble(L, 0), 6);
        due.is("texts stay", x.about(6) + x.about(7), 2);
        due.is("sounds stay", x.about(8), 1);
        due.is("boxes stay", x.back(1), 9);
        LimpCode y = walked(L);
        y.dealt();
        y.stop();
        due.is("what lies there stays", y.about(11), 6);
    }

    private static void heards() {
        due.says("heard: NONE if one can't be");
        for (int ear : new int[] {-1, 2, 3, 4, MIN, MAX}) {
            due.is("heard(" + ear + ", 0)", walked(E).heard(ear, 0), -1);
        }
        for (int moment : new int[] {-1, 4, 5, 59, 60, 61, MIN, MAX}) {
            due.is("heard(0, " + moment + ")", walked(E).heard(0, moment), -1);
        }
        due.is("heard(0, 0)", walked(E).heard(0, 0), 9);
        due.is("heard(1, 0)", walked(E).heard(1, 0), 5);
        due.is("heard in the last moment", walked(E).heard(0, 3), 0);
        due.is("heard of an empty walk", taught().heard(0, 0), -1);
        LimpCode x = walked(L, R, E);
        x.stop();
        x.step(W);
        due.is("heard of a walk that was stopped", x.heard(0, 5), -1);
        due.is("heard of the one now", x.heard(0, 0), 1);
        due.is("heard then", x.heard(0, 3), 0);
        Twins.same(due, "heard changes nothing", () -> told(walked(L, R), 0), y -> {
            y.heard(0, 0);
            y.heard(5, 0);
            y.heard(0, 60);
        });
    }

    // ---- promise 20

    private static void limp(LimpCode x, int upper, int lower) {
        due.is("limp(0)", x.limp(0), upper);
        due.is("limp(1)", x.limp(1), lower);
    }

    private static void limps() {
        due.says("LIMP: what STEPS by the left foot take less what those by the right one take, over what both take, in lowest terms");
        limp(walked(L), 1, 1);
        limp(walked(L, R), 1, 5);
        limp(walked(L, W, R), 1, 5);
        limp(walked(ONE, R, ONE), 0, 1);
        limp(walked(ONE, R), -1, 3);
        limp(walked(ONE, E), -3, 5);
        limp(walked(L, ONE), 1, 2);
        limp(walked(ONE, ONE, ONE), 1, 3);
        limp(walked(E, R, E), 3, 5);
        limp(walked(W, ONE, NINE, E, W), -3, 5);
        limp(walkedTo(60), 0, 1);
        limp(walkedTo(59), 1, 59);
        due.says("LIMP: NONE for another what (it may be that, too)");
        // The left foot takes 9, the right one 12.
        limp(walked(E, E, ONE, E, E, E), -1, 7);
        due.is("-1 that is no NONE", walked(ONE, R).limp(0), -1);
        for (int what : new int[] {-1, 2, 3, MIN, MAX}) {
            due.is("limp(" + what + ")", walked(L, R).limp(what), -1);
            due.is("limp(" + what + ") of none", taught().limp(what), -1);
        }
    }

    private static void limpOfNone() {
        due.says("LIMP: 0, 1 if neither foot walked");
        limp(taught(), 0, 1);
        limp(walked(W), 0, 1);
        limp(walked(W, NINE, W), 0, 1);
        LimpCode x = walked(L);
        x.stop();
        limp(x, 0, 1);
        Twins.same(due, "limp changes nothing", () -> walked(L, R), y -> limp(y, 1, 5));
    }

    // ---- promise 21

    private static void cobbles() {
        due.says("A STEP is so much louder (-9 .. 9): how loud it is then");
        LimpCode x = taught();
        due.is("by 0", x.cobble(L, 0), 5);
        due.is("by 4", x.cobble(L, 4), 9);
        due.is("by -9", x.cobble(L, -9), 0);
        due.is("by 9", x.cobble(L, 9), 9);
        due.is("by -1", x.cobble(L, -1), 8);
        due.is("by -1 again", x.cobble(L, -1), 7);
        due.is("another step is as told", x.cobble(R, 0), 4);
        due.is("the last step", x.cobble(NINE, 1), 7);
    }

    private static void refusedCobble(int step, int by) {
        String what = "cobble(" + step + ", " + by + ")";
        Twins.same(due, what, () -> walked(L, R, E), x -> due.is(what, x.cobble(step, by), -1));
    }

    private static void cobbleIsRefused() {
        due.says("cobble: NONE, doing nothing, if one can't be");
        for (int step : new int[] {-1, 6, 7, MIN, MAX}) {
            refusedCobble(step, 0);
            refusedCobble(step, 1);
        }
        for (int by : new int[] {10, -10, 11, MIN, MAX, MIN + 5}) {
            refusedCobble(L, by);
            refusedCobble(E, by);
        }
        due.says("cobble: NONE, doing nothing, if it would be below 0 or above 9");
        refusedCobble(L, 5);
        refusedCobble(L, 9);
        refusedCobble(L, -6);
        refusedCobble(L, -9);
        refusedCobble(E, 1);
        refusedCobble(W, -2);
        // What is cobbled already counts, not what was told.
        LimpCode x = taught();
        x.cobble(L, 4);
        due.is("above 9 by what was cobbled", x.cobble(L, 1), -1);
        x.cobble(L, -9);
        due.is("below 0 by what was cobbled", x.cobble(L, -1), -1);
        due.is("it stays", x.cobble(L, 0), 0);
    }

    private static void cobbledForAll() {
        due.says("COBBLED STEPS are louder or less loud (0 .. 9) than told, for all that is asked");
        LimpCode x = Due.taught("step s takes 1 loud 1;step t takes 1 loud 2;letter a s;letter b t;letter c t;ear e floors 0;ear f floors 0;ear g floors 0 book b;");
        x.tell(0, 0);
        x.tell(1, 1);
        x.step(0);
        due.is("stuck as told", x.stuck(2), 0);
        due.is("alike as told", x.alike(0, 0, 1, 0), 0);
        due.is("doubled as told", x.doubled(0, 1), 0);
        x.sound(0, 0, 2, 2);
        due.is("meant as told", x.meant(1, 0), 2);
        due.is("can as told", x.can(1, 0, 0), 6);
        due.is("cobble", x.cobble(0, 1), 2);
        due.is("heard", x.heard(0, 0), 2);
        due.is("reads", x.reads(0, 0), 3);
        due.is("stuck", x.stuck(2), -1);
        due.is("alike", x.alike(0, 0, 1, 0), 1);
        due.is("doubled", x.doubled(0, 1), 2);
        due.is("secret", x.secret(0, 1, 2), 0);
        due.is("meant", x.meant(1, 0), 3);
        due.is("can", x.can(1, 0, 0), 7);
        x.cobble(1, -2);
        due.is("secret then", x.secret(1, 0, 2), 0);
        x.hush(1);
        x.tell(1, 0);
        due.is("secret of the loud one", x.secret(0, 1, 2), 1);
        due.lie("secret of the loud one", x, 0);
    }

    // ---- promises 27, 28

    private static void images() {
        due.says("The WALK in earnest, what is COBBLED are kept in a BOX 0 .. 2: the TIME of the WALK");
        for (int box = 0; box < 3; box++) {
            due.is("image of an empty walk", taught().image(box), 0);
            LimpCode x = walked(L, R);
            x.cobble(L, -2);
            due.is("image", x.image(box), 5);
            x.step(E);
            x.cobble(L, 4);
            x.cobble(R, 1);
            for (int other = 0; other < 3; other++) {
                due.is("back(" + other + ")", x.back(other), other == box ? 5 : -1);
            }
            due.is("heard at first", x.heard(0, 0), 3);
            due.is("heard then", x.heard(0, 3), 4);
            due.is("its steps", x.about(4), 2);
            due.is("whose turn", x.about(5), 0);
            due.is("how loud", x.cobble(L, 0), 3);
            x.step(ONE);
            due.is("kept anew", x.image(box), 6);
            x.stop();
            due.is("back to what was kept last", x.back(box), 6);
            due.is("its steps then", x.about(4), 3);
        }
        due.is("image of 60", walkedTo(60).image(2), 60);
    }

    private static void imageIsRefused() {
        due.says("image: NONE if there is none such");
        for (int box : new int[] {-1, 3, 4, MIN, MAX}) {
            Twins.same(due, "image(" + box + ")", () -> {
                LimpCode x = walked(L);
                x.image(0);
                x.step(R);
                x.image(2);
                return x;
            }, x -> due.is("image(" + box + ")", x.image(box), -1));
        }
    }

    private static void backs() {
        due.says("All is as it was kept: the TIME of the WALK");
        LimpCode x = told(walked(E), 0);
        x.image(0);
        x.step(R);
        x.cobble(E, -4);
        x.tell(0, 1);
        x.later(3);
        x.sound(0, 0, 0, 9);
        x.dealt();
        due.is("back", x.back(0), 4);
        due.is("its time", x.about(3), 4);
        due.is("its steps", x.about(4), 1);
        due.is("whose turn", x.about(5), 1);
        due.is("not cobbled", x.cobble(E, 0), 9);
        due.is("texts stay as they are", x.about(6), 2);
        due.is("sounds stay as they are", x.about(8), 1);
        due.is("the time of day stays as it is", x.about(9), 3);
        due.is("what lies there stays as it is", x.about(11), 6);
        due.is("gone on from", x.step(R), 6);
        due.is("back again", x.back(0), 4);
        due.is("back once more", x.back(0), 4);
        due.is("whose turn then", x.about(5), 1);
        due.is("left can't be", x.step(L), -1);
        LimpCode w = walked(L, R, L);
        w.image(2);
        w.stop();
        w.step(W);
        w.step(NINE);
        w.step(ONE);
        w.step(ONE);
        due.is("back from another walk", w.back(2), 8);
        int[] kept = {5, 0, 0, 4, 0, 5, 0, 0, -1};
        for (int m = 0; m < kept.length; m++) {
            due.is("heard(0, " + m + ") of it", w.heard(0, m), kept[m]);
        }
        limp(w, 1, 2);
        LimpCode y = taught();
        y.image(1);
        y.step(L);
        due.is("back to an empty walk", y.back(1), 0);
        due.is("whose turn there", y.about(5), 0);
        due.is("heard there", y.heard(0, 0), -1);
    }

    private static void backIsRefused() {
        due.says("back: NONE, doing nothing, if nothing was");
        for (int box : new int[] {0, 1, 2, -1, 3, MIN, MAX}) {
            Twins.same(due, "back(" + box + ")", () -> told(walked(L, R), 0), x -> due.is("back(" + box + ")", x.back(box), -1));
        }
        Twins.same(due, "back(1) beside kept ones", () -> {
            LimpCode x = walked(L);
            x.image(0);
            x.image(2);
            x.step(R);
            return x;
        }, x -> due.is("back(1)", x.back(1), -1));
    }

    // ---- promise 29

    private static void abouts() {
        due.says("about: What 0: STEPS told, 1: LETTERS, 2: EARS, 3: the TIME of the WALK, 4: how many STEPS it has, .. 11: how many lie there");
        LimpCode x = walked(L, W, R, E);
        x.tell(0, 0);
        x.tell(0, 0);
        x.tell(0, 5);
        x.tell(1, 2);
        for (int i = 0; i < 9; i++) {
            x.sound(0, i, 0, 9);
        }
        x.untell(3);
        x.later(1000);
        x.later(23);
        x.feed(0, 0, 0, 0, 0);
        x.end(17);
        x.meant(7, 0);
        int[] want = {6, 6, 2, 14, 4, 1, 3, 1, 9, 1023, 17, x.about(11)};
        for (int what = 0; what < want.length; what++) {
            due.is("about(" + what + ")", x.about(what), want[what]);
        }
        x.dealt();
        due.is("about(11) behind dealt", x.about(11), 6);
        due.says("about: NONE for another what");
        for (int what : new int[] {-1, 12, 13, MIN, MAX}) {
            due.is("about(" + what + ")", x.about(what), -1);
        }
    }

    private static void aboutEachEdge() {
        due.says("about 5: whose turn it is (0 left, 1 right)");
        due.is("left", walked(L, R).about(5), 0);
        due.is("right", walked(L, R, E).about(5), 1);
        due.says("about 8: SOUNDS, 30 at most");
        LimpCode x = taught();
        for (int i = 0; i < 32; i++) {
            x.sound(0, 0, 0, 9);
        }
        due.is("30 of 32", x.about(8), 30);
        due.says("about 9: the TIME OF DAY");
        for (int i = 0; i < 101; i++) {
            x.later(1000);
        }
        due.is("100,000 at most", x.about(9), 100000);
        due.says("about 11: how many lie there");
        LimpCode y = walkedTo(60);
        due.is("reads of 60", y.reads(1, 0) > 0, true);
        due.is("they lie there", y.about(11) > 0, true);
        y.reads(1, 4);
        due.is("nothing lies there", y.about(11), 0);
        Twins.same(due, "about changes nothing", () -> walked(L, R), z -> {
            for (int what = -1; what < 13; what++) {
                z.about(what);
            }
        });
    }

    private static void calls() {
        due.says("An object is used for at most 512 calls after it has been made");
        LimpCode x = new LimpCode();
        for (int i = 1; i <= 512; i++) {
            due.is("call " + i, x.later(1), i);
        }
        LimpCode y = taught();
        for (int i = 1; i <= 100; i++) {
            due.is("step", y.step(ONE), 1);
            due.is("image", y.image(i % 3), 1);
            due.is("reads", y.reads(0, 0), 1);
            due.is("stop", y.stop(), 1);
        }
    }
}
