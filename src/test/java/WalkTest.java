/** Promises 6 to 9, 20, 21, 27 to 29: step, say, stop, heard, limp, cobble, image, back, about. */
public final class WalkTest {
    private static final Due due = new Due();
    private static final String SCHOOL = "step l takes 3 loud 5 left;step r takes 2 loud 4 right;step e takes 9 loud 9;"
        + "step w takes 4 loud 1 still;letter a l r;letter b r;letter c w;letter d e e e e e;ear x floors 0;ear y floors 4;";

    public static void main(String[] args) {
        steps();
        longest();
        says();
        limps();
        cobbles();
        images();
        abouts();
        due.finish();
    }

    private static void steps() {
        LimpCode x = Due.taught(SCHOOL);
        due.is("right by the left foot", x.step(1), -1);
        due.is("left by the left foot", x.step(0), 3);
        due.is("left by the right foot", x.step(0), -1);
        due.is("still", x.step(3), 7);
        due.is("turn behind still", x.about(5), 1);
        due.is("right by the right foot", x.step(1), 9);
        due.is("either", x.step(2), 18);
        due.is("turn", x.about(5), 1);
        due.is("step(4)", x.step(4), -1);
        due.is("step(-1)", x.step(-1), -1);
        due.is("step(MIN)", x.step(Integer.MIN_VALUE), -1);
        due.is("steps", x.about(4), 4);
        int[] want = {5, 0, 0, 1, 0, 0, 0, 4, 0, 9, 0, 0, 0, 0, 0, 0, 0, 0, -1};
        for (int m = 0; m < want.length; m++) {
            due.is("heard(0, " + m + ")", x.heard(0, m), want[m]);
            due.is("heard(1, " + m + ")", x.heard(1, m), m == 18 ? -1 : Math.max(0, want[m] - 4));
        }
        due.is("heard(2, 0)", x.heard(2, 0), -1);
        due.is("heard(-1, 0)", x.heard(-1, 0), -1);
        due.is("heard(0, -1)", x.heard(0, -1), -1);
        due.is("stop", x.stop(), 18);
        due.is("stop again", x.stop(), 0);
        due.is("heard then", x.heard(0, 0), -1);
        due.is("turn then", x.about(5), 0);
    }

    private static void longest() {
        LimpCode x = Due.taught(SCHOOL + "step o takes 1 loud 1;");
        for (int i = 1; i <= 6; i++) {
            due.is("nine more", x.step(2), 9 * i);
        }
        due.is("to 63", x.step(2), -1);
        due.is("to 58", x.step(3), 58);
        due.is("to 62", x.step(3), -1);
        due.is("to 59", x.step(4), 59);
        due.is("to 60", x.step(4), 60);
        due.is("to 61", x.step(4), -1);
        due.is("heard at 59", x.heard(0, 59), 1);
        due.is("heard at 60", x.heard(0, 60), -1);
        x.stop();
        for (int i = 1; i <= 60; i++) {
            due.is("one more", x.step(4), i);
        }
        due.is("60 steps", x.about(4), 60);
        due.is("a 61st", x.step(4), -1);
    }

    private static void says() {
        LimpCode x = Due.taught(SCHOOL);
        due.is("say nothing", x.say(1), 0);
        due.is("say(2)", x.say(2), -1);
        due.is("say(-1)", x.say(-1), -1);
        x.tell(0, 0);
        x.tell(0, 2);
        due.is("say l r w", x.say(0), 9);
        due.is("its steps", x.about(4), 3);
        x.step(0);
        due.is("say l by the right foot", x.say(0), -1);
        due.is("nothing came", x.about(3), 12);
        due.is("no step came", x.about(4), 4);
        due.is("the turn stays", x.about(5), 1);
        due.is("say nothing again", x.say(1), 12);
        x.stop();
        x.tell(1, 3);
        due.is("say 45", x.say(1), 45);
        x.step(2);
        due.is("say beyond 60", x.say(1), -1);
        due.is("54 it stays", x.about(3), 54);
        due.is("6 steps stay", x.about(4), 6);
        x.hush(0);
        x.tell(0, 2);
        due.is("say 58", x.say(0), 58);
        due.is("the text stays", x.about(6), 1);
    }

    private static void limps() {
        LimpCode x = Due.taught(SCHOOL);
        due.is("upper of none", x.limp(0), 0);
        due.is("lower of none", x.limp(1), 1);
        x.step(3);
        due.is("upper of still alone", x.limp(0), 0);
        due.is("lower of still alone", x.limp(1), 1);
        x.step(0);
        due.is("upper of left alone", x.limp(0), 1);
        due.is("lower of left alone", x.limp(1), 1);
        x.step(2);
        due.is("upper of 3 - 9", x.limp(0), -1);
        due.is("lower of 12", x.limp(1), 2);
        x.step(0);
        due.is("upper of 6 - 9", x.limp(0), -1);
        due.is("lower of 15", x.limp(1), 5);
        x.step(1);
        due.is("upper of 6 - 11", x.limp(0), -5);
        due.is("lower of 17", x.limp(1), 17);
        due.is("limp(2)", x.limp(2), -1);
        due.is("limp(-1)", x.limp(-1), -1);
        x.stop();
        x.step(2);
        x.step(2);
        due.is("upper of like ones", x.limp(0), 0);
        due.is("lower of like ones", x.limp(1), 1);
    }

    private static void cobbles() {
        LimpCode x = Due.taught(SCHOOL);
        x.step(0);
        due.is("cobble by 4", x.cobble(0, 4), 9);
        due.is("heard louder", x.heard(0, 0), 9);
        due.is("cobble by 1 more", x.cobble(0, 1), -1);
        due.is("cobble by -9", x.cobble(0, -9), 0);
        due.is("heard no more", x.heard(0, 0), 0);
        due.is("cobble by -1 more", x.cobble(0, -1), -1);
        due.is("cobble by 10", x.cobble(0, 10), -1);
        due.is("cobble by -10", x.cobble(2, -10), -1);
        due.is("cobble by 9", x.cobble(0, 9), 9);
        due.is("cobble by 0", x.cobble(0, 0), 9);
        due.is("cobble(4)", x.cobble(4, 0), -1);
        due.is("cobble(-1)", x.cobble(-1, 0), -1);
        due.is("cobble by MAX", x.cobble(0, Integer.MAX_VALUE), -1);
        due.is("cobble by MIN", x.cobble(0, Integer.MIN_VALUE), -1);
        x.stop();
        due.is("cobbled behind stop", x.cobble(0, 0), 9);
    }

    private static void images() {
        LimpCode x = Due.taught(SCHOOL);
        due.is("back of nothing", x.back(0), -1);
        due.is("image of nothing", x.image(2), 0);
        x.step(0);
        x.cobble(0, 2);
        due.is("image", x.image(0), 3);
        x.step(1);
        x.cobble(0, 2);
        x.tell(0, 0);
        due.is("another image", x.image(1), 5);
        due.is("back", x.back(0), 3);
        due.is("turn", x.about(5), 1);
        due.is("heard", x.heard(0, 0), 7);
        due.is("texts stay", x.about(6), 1);
        due.is("gone on from it", x.step(2), 12);
        due.is("back to the other", x.back(1), 5);
        due.is("heard there", x.heard(0, 0), 9);
        due.is("heard there, too", x.heard(0, 3), 4);
        due.is("turn there", x.about(5), 0);
        due.is("back once more", x.back(0), 3);
        due.is("what came behind is not kept", x.about(4), 1);
        due.is("kept anew", x.image(1), 3);
        x.stop();
        due.is("back to it", x.back(1), 3);
        due.is("back to nothing", x.back(2), 0);
        due.is("no cobbler there", x.cobble(0, 0), 5);
        due.is("image(3)", x.image(3), -1);
        due.is("image(-1)", x.image(-1), -1);
        due.is("back(3)", x.back(3), -1);
        due.is("back(-1)", x.back(-1), -1);
    }

    private static void abouts() {
        LimpCode x = Due.taught(SCHOOL);
        x.step(0);
        x.step(3);
        x.tell(0, 0);
        x.tell(1, 2);
        x.tell(1, 2);
        x.sound(0, 0, 0, 9);
        x.later(5);
        x.feed(0, 0, 0, 0, 0);
        x.dealt();
        int[] want = {4, 4, 2, 7, 2, 1, 1, 2, 1, 5, 20, 4};
        for (int what = 0; what < want.length; what++) {
            due.is("about(" + what + ")", x.about(what), want[what]);
        }
        due.is("about(12)", x.about(12), -1);
        due.is("about(-1)", x.about(-1), -1);
        due.is("about(MAX)", x.about(Integer.MAX_VALUE), -1);
    }
}
