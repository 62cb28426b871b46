import java.util.Random;

/** Runs of calls, made by numbers of a fixed seed, on the class and on the naive one: all promises. */
public final class OracleTest {
    private static final Due due = new Due();
    private static final int SCHOOLS = 6000;
    private static final int RUNS = 1500;
    private static final int CALLS = 120;

    private final Random random;
    private final LimpCode x = new LimpCode();
    private final Naive n = new Naive();
    private final boolean large;

    private OracleTest(long seed) {
        random = new Random(seed);
        large = seed % 4 == 0;
    }

    public static void main(String[] args) {
        for (int seed = 0; seed < SCHOOLS; seed++) {
            new OracleTest(seed).trySchool();
        }
        for (int seed = 0; seed < RUNS; seed++) {
            new OracleTest(seed).tryRun();
        }
        due.finish();
    }

    private int below(int n) {
        return random.nextInt(n);
    }

    private String name(int i) {
        return String.valueOf((char) ('a' + i));
    }

    private String makeSchool() {
        StringBuilder s = new StringBuilder();
        int steps = 1 + below(large ? 6 : 4);
        int letters = 1 + below(large ? 8 : 5);
        int ears = 2 + below(3);
        String[] sides = {"", "", "", " left", " right", " still"};
        for (int i = 0; i < steps; i++) {
            int takes = below(3) > 0 ? 1 : 1 + below(large ? 4 : 3);
            s.append("step ").append(name(i)).append(" takes ").append(takes).append(" loud ").append(below(4)).append(sides[below(6)]).append(";");
        }
        for (int i = 0; i < letters; i++) {
            s.append("letter ").append(name(i));
            int size = 1 + below(below(4) + 1);
            for (int k = 0; k < size; k++) {
                s.append(" ").append(name(below(steps)));
            }
            s.append(";");
        }
        for (int i = 0; i < ears; i++) {
            s.append("ear ").append(name(i)).append(" floors ").append(below(4));
            StringBuilder book = new StringBuilder();
            for (int l = 0; l < letters && i > 0 && below(2) == 0; l++) {
                book.append(below(3) > 0 ? " " + name(l) : "");
            }
            s.append(book.isEmpty() ? "" : " book" + book).append(";");
        }
        return s.toString();
    }

    private void teach(String school) {
        Due.put(x, school);
        n.tape.setLength(0);
        n.tape.append(school);
        due.is("school of <" + school + ">", x.school(), n.school());
        due.is("fault(0) of <" + school + ">", x.fault(0), n.fault);
        due.is("fault(1) of <" + school + ">", x.fault(1), n.place);
        for (int what = 0; what < 12; what++) {
            due.is("about(" + what + ") behind <" + school + ">", x.about(what), n.about(what));
        }
    }

    /** A school that is right, but for some signs. */
    private void trySchool() {
        StringBuilder s = new StringBuilder(makeSchool());
        String[] put = {" ", "", "a", "z", ";", "1", "11", "0", "abcdefgh", " book ", " step ", " letter ", " ear ", " left ", "\n", "!", "takes", " a a a", "\u00ff", "\u0000"};
        int changes = below(4);
        for (int i = 0; i < changes; i++) {
            int at = below(s.length());
            int end = Math.min(s.length(), at + below(3));
            s.replace(at, end, put[below(put.length)]);
        }
        if (below(4) == 0) {
            s.append(makeSchool(), 0, 20);
        }
        if (below(4) == 0) {
            s.setLength(below(s.length()));
        }
        teach(s.toString());
        teach(makeSchool());
    }

    private void tryRun() {
        String school = makeSchool();
        teach(school);
        for (int i = 0; i < CALLS; i++) {
            int kind = below(30);
            int a = below(5);
            int b = below(5);
            String call = "seed of <" + school + ">, call " + i + " of kind " + kind + " (" + a + ", " + b + "), " + n;
            due.is(call, answer(kind, a, b), 0);
            due.is("lying behind " + call, x.about(11), n.about(11));
            for (int k = -1; k <= n.lying.size(); k++) {
                due.is("lies(" + k + ") behind " + call, x.lies(k), n.lies(k));
            }
        }
        for (int what = -1; what <= 12; what++) {
            due.is("about(" + what + ")", x.about(what), n.about(what));
        }
    }

    /** How much the two answers differ. */
    private long answer(int kind, int a, int b) {
        int c = below(7) - 1;
        int time = below(large ? 61 : 9);
        int k = below(20) - 2;
        switch (kind) {
            case 0: case 1: case 2: return walkSome(a);
            case 3: return x.say(a - 1) - n.say(a - 1);
            case 4: return below(3) > 0 ? 0 : x.stop() - n.stop();
            case 5: return x.heard(a - 1, time) - n.heard(a - 1, time);
            case 6: case 7: case 8: return x.reads(a, b) - n.reads(a, b);
            case 9: case 10: return x.stuck(a) - n.stuck(a);
            case 11: return alike(a, b, c);
            case 12: case 13: case 14: return tellSome(a, b);
            case 15: return below(3) > 0 ? 0 : x.hush(a - 1) - n.hush(a - 1);
            case 16: return x.doubled(a, b) - n.doubled(a, b);
            case 17: case 18: return x.secret(a, b, c) - n.secret(a, b, c);
            case 19: return timed();
            case 20: return x.dealt() - n.dealt();
            case 21: return x.limp(a - 1) - n.limp(a - 1);
            case 22: return cobble(a, below(5) - 2);
            case 23: case 24: return soundSome(a, time);
            case 25: return (x.untell(a) ? 1 : 0) - (n.untell(a) ? 1 : 0);
            case 26: return x.later(a) - n.later(a);
            case 27: return x.meant(time, k) - n.meant(time, k);
            case 28: return x.can(time, b, k) - n.can(time, b, k);
            default: return below(2) == 0 ? x.image(a - 1) - n.image(a - 1) : x.back(a - 1) - n.back(a - 1);
        }
    }

    private long alike(int a, int b, int c) {
        int foot = below(3);
        return x.alike(a, b, c, foot) - n.alike(a, b, c, foot);
    }

    private long timed() {
        int time = below(large ? 33 : 9);
        int set = random.nextInt() | random.nextInt();
        return x.timed(time, set) - n.timed(time, set);
    }

    private long cobble(int a, int by) {
        return x.cobble(a, by) - n.cobble(a, by);
    }

    /** Long walks are tried in some runs alone: the naive one is slow. */
    private long walkSome(int step) {
        if (!large && n.about(3) > 8) {
            return 0;
        }
        return x.step(step) - n.step(step);
    }

    /** Both texts get the same letter often, so that they take the same time. */
    private long tellSome(int a, int letter) {
        if (n.about(6) + n.about(7) > 12) {
            return x.hush(a % 2) - n.hush(a % 2);
        }
        if (below(3) == 0) {
            return x.tell(a - 1, letter) - n.tell(a - 1, letter);
        }
        int first = x.tell(0, letter) - n.tell(0, letter);
        int second = x.tell(1, letter) - n.tell(1, letter);
        return first != 0 ? first : second;
    }

    private long soundSome(int ear, int time) {
        int least = below(3);
        int most = least + below(4) - 1;
        int moment = time % 9;
        if (below(3) > 0) {
            least = 0;
        }
        return x.sound(ear - 1, moment, least, most) - n.sound(ear - 1, moment, least, most);
    }
}
