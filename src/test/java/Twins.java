import java.util.ArrayList;
import java.util.List;
import java.util.function.Consumer;
import java.util.function.Supplier;

/** Two objects made alike: one gets some calls more, and then both must answer alike all that can be asked. */
final class Twins {
    private static final int SHOWN = 12;

    private final LimpCode x;
    private final List<String> calls = new ArrayList<>();
    private final List<Long> answers = new ArrayList<>();

    private Twins(LimpCode x) {
        this.x = x;
    }

    /** The calls change nothing that can be seen. */
    static void same(Due due, String what, Supplier<LimpCode> made, Consumer<LimpCode> calls) {
        LimpCode x = made.get();
        calls.accept(x);
        compare(due, what, x, made.get());
    }

    /** The calls change nothing that can be seen, but what lies there. */
    static void sameButLying(Due due, String what, Supplier<LimpCode> made, Consumer<LimpCode> calls) {
        LimpCode x = made.get();
        LimpCode y = made.get();
        calls.accept(x);
        x.reads(-1, 0);
        y.reads(-1, 0);
        compare(due, what, x, y);
    }

    private static void compare(Due due, String what, LimpCode x, LimpCode y) {
        Twins got = new Twins(x);
        Twins want = new Twins(y);
        got.askAll();
        want.askAll();
        for (int i = 0; i < want.answers.size(); i++) {
            due.is(what + ", then " + want.calls.get(i), got.answers.get(i), want.answers.get(i));
        }
    }

    private void put(String call, long answer) {
        calls.add(call);
        answers.add(answer);
    }

    /** What changes nothing is asked first; then the texts, boxes, sounds and the tape are used up. */
    private void askAll() {
        askAbout();
        for (int i = 0; i < SHOWN; i++) {
            put("lies(" + i + ")", x.lies(i));
        }
        askWalk();
        put("timed", x.timed(5, 0x15));
        for (int k = -1; k < SHOWN; k += 3) {
            put("can at " + k, x.can(4, 1, k));
            put("meant at " + k, x.meant(4, k));
        }
        put("dealt", x.dealt());
        put("doubled", x.doubled(0, 1));
        for (int text = 0; text < 2; text++) {
            useText(text);
        }
        for (int box = 0; box < 3; box++) {
            put("back(" + box + ")", x.back(box));
            askWalk();
        }
        for (int sound = 0; sound < 5; sound++) {
            put("untell(" + sound + ")", x.untell(sound) ? 1 : 0);
        }
        put("sound", x.sound(0, 0, 0, 9));
        put("later", x.later(1));
        put("school", x.school());
        put("fault(0)", x.fault(0));
        put("fault(1)", x.fault(1));
        askAbout();
    }

    private void askAbout() {
        for (int what = 0; what <= 11; what++) {
            put("about(" + what + ")", x.about(what));
        }
    }

    private void useText(int text) {
        x.stop();
        put("say(" + text + ")", x.say(text));
        askWalk();
        put("tell(" + text + ", 0)", x.tell(text, 0));
        put("hush(" + text + ")", x.hush(text));
    }

    private void askWalk() {
        for (int what = 3; what <= 5; what++) {
            put("about(" + what + ")", x.about(what));
        }
        put("limp(0)", x.limp(0));
        put("limp(1)", x.limp(1));
        for (int ear = 0; ear < 2; ear++) {
            for (int m = 0; m < SHOWN; m++) {
                put("heard(" + ear + ", " + m + ")", x.heard(ear, m));
            }
            put("stuck(" + ear + ")", x.stuck(ear));
        }
        for (int step = 0; step < 6; step++) {
            put("cobble(" + step + ", 0)", x.cobble(step, 0));
        }
    }
}
