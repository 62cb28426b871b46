import java.math.BigInteger;
import java.util.ArrayList;
import java.util.Arrays;
import java.util.HashMap;
import java.util.List;
import java.util.Map;
import java.util.regex.Matcher;
import java.util.regex.Pattern;

/** The document's words once more, written as plainly as can be and with the whole Java library: what the class is tried against. */
final class Naive {
    static final BigInteger MOST = BigInteger.TEN.pow(15);
    private static final List<String> WORDS = List.of("step", "takes", "loud", "left", "right", "still", "letter", "ear", "floors", "book");

    record Step(String name, int takes, int loud, String side) { }

    record Letter(String name, List<Integer> steps) { }

    record Ear(String name, int floors, List<Integer> book) { }

    record Sound(int ear, int moment, int least, int most, int told, int[] untold) { }

    record Kept(List<Integer> walk, int[] loud) { }

    /** Whether, and by how many missed, what comes at a moment is as it must be; below 0 if it is not. */
    interface Fit {
        int missed(List<Integer> steps, int moment);
    }

    StringBuilder tape = new StringBuilder();
    List<Step> steps = new ArrayList<>();
    List<Letter> letters = new ArrayList<>();
    List<Ear> ears = new ArrayList<>();
    int fault;
    int place = -1;
    List<Integer> walk = new ArrayList<>();
    int[] loud = new int[6];
    List<List<Integer>> texts = new ArrayList<>(List.of(new ArrayList<>(), new ArrayList<>()));
    List<Sound> sounds = new ArrayList<>();
    Kept[] boxes = new Kept[3];
    List<Integer> lying = new ArrayList<>();
    int day;

    // ---- the school

    private static final class Fault extends RuntimeException {
        final int fault;
        final int place;

        Fault(int fault, int place) {
            super(null, null, false, false);
            this.fault = fault;
            this.place = place;
        }
    }

    private String text;
    private int at;
    private List<Step> newSteps;
    private List<Letter> newLetters;
    private List<Ear> newEars;

    int school() {
        text = tape.toString();
        tape.setLength(0);
        at = 0;
        newSteps = new ArrayList<>();
        newLetters = new ArrayList<>();
        newEars = new ArrayList<>();
        fault = 0;
        place = -1;
        try {
            while (!peek().isEmpty()) {
                line();
            }
        } catch (Fault f) {
            fault = f.fault;
            place = f.place;
            return -1;
        }
        steps = newSteps;
        letters = newLetters;
        ears = newEars;
        walk = new ArrayList<>();
        loud = new int[6];
        for (int i = 0; i < steps.size(); i++) {
            loud[i] = steps.get(i).loud();
        }
        texts = new ArrayList<>(List.of(new ArrayList<>(), new ArrayList<>()));
        sounds = new ArrayList<>();
        boxes = new Kept[3];
        lying = new ArrayList<>();
        return letters.size();
    }

    private static final Pattern TOKEN = Pattern.compile("[a-z]+|[0-9]+[a-z]?|;|(?s:.)");

    /** The token that is next, blanks passed over; the empty text at the end. */
    private String peek() {
        while (at < text.length() && (text.charAt(at) == ' ' || text.charAt(at) == '\n')) {
            at++;
        }
        if (at == text.length()) {
            return "";
        }
        Matcher m = TOKEN.matcher(text).region(at, text.length());
        if (!m.lookingAt() || !m.group().matches("[a-z]{1,8}|[0-9]{1,4}|;")) {
            throw new Fault(1, at);
        }
        return m.group();
    }

    private void pass(String token) {
        if (!peek().equals(token)) {
            throw new Fault(2, at);
        }
        at += token.length();
    }

    private String peekName() {
        String t = peek();
        if (!t.matches("[a-z]+") || WORDS.contains(t)) {
            throw new Fault(2, at);
        }
        return t;
    }

    private String newName(List<String> told) {
        String t = peekName();
        if (told.contains(t)) {
            throw new Fault(3, at);
        }
        at += t.length();
        return t;
    }

    private int number(int least, int most) {
        String t = peek();
        if (!t.matches("[0-9]+")) {
            throw new Fault(2, at);
        }
        int n = Integer.parseInt(t);
        if (n < least || n > most) {
            throw new Fault(4, at);
        }
        at += t.length();
        return n;
    }

    private void line() {
        switch (peek()) {
            case "step" -> stepLine();
            case "letter" -> letterLine();
            case "ear" -> earLine();
            default -> throw new Fault(2, at);
        }
    }

    private void tooMany(int told, int most) {
        if (told == most) {
            throw new Fault(2, at);
        }
    }

    private void stepLine() {
        tooMany(newSteps.size(), 6);
        pass("step");
        String name = newName(newSteps.stream().map(Step::name).toList());
        pass("takes");
        int takes = number(1, 9);
        pass("loud");
        int loudness = number(0, 9);
        String side = "";
        if (List.of("left", "right", "still").contains(peek())) {
            side = peek();
            pass(side);
        }
        pass(";");
        newSteps.add(new Step(name, takes, loudness, side));
    }

    private void letterLine() {
        tooMany(newLetters.size(), 10);
        pass("letter");
        String name = newName(newLetters.stream().map(Letter::name).toList());
        List<String> told = newSteps.stream().map(Step::name).toList();
        List<Integer> row = new ArrayList<>();
        do {
            String t = peekName();
            if (row.size() == 5) {
                throw new Fault(2, at);
            }
            if (!told.contains(t)) {
                throw new Fault(5, at);
            }
            row.add(told.indexOf(t));
            at += t.length();
        } while (!peek().equals(";"));
        pass(";");
        newLetters.add(new Letter(name, row));
    }

    private void earLine() {
        tooMany(newEars.size(), 4);
        pass("ear");
        String name = newName(newEars.stream().map(Ear::name).toList());
        pass("floors");
        int floors = number(0, 9);
        List<Integer> book = null;
        if (peek().equals("book")) {
            pass("book");
            book = new ArrayList<>();
            List<String> told = newLetters.stream().map(Letter::name).toList();
            do {
                String t = peekName();
                if (!told.contains(t)) {
                    throw new Fault(5, at);
                }
                if (book.contains(told.indexOf(t))) {
                    throw new Fault(3, at);
                }
                book.add(told.indexOf(t));
                at += t.length();
            } while (!peek().equals(";"));
        }
        pass(";");
        newEars.add(new Ear(name, floors, book));
    }

    // ---- walks

    int time(List<Integer> row) {
        return row.stream().mapToInt(s -> steps.get(s).takes()).sum();
    }

    /** Whose turn it is behind a row, or -1. */
    int turn(List<Integer> row, int first) {
        int turn = first;
        for (int s : row) {
            String side = steps.get(s).side();
            if (side.equals("still")) {
                continue;
            }
            if (side.equals(turn == 0 ? "right" : "left")) {
                return -1;
            }
            turn = 1 - turn;
        }
        return turn;
    }

    List<Integer> hears(int ear, List<Integer> row) {
        List<Integer> all = new ArrayList<>();
        for (int s : row) {
            all.add(Math.max(0, loud[s] - ears.get(ear).floors()));
            for (int i = 1; i < steps.get(s).takes(); i++) {
                all.add(0);
            }
        }
        return all;
    }

    List<Integer> walkOf(List<Integer> text) {
        List<Integer> row = new ArrayList<>();
        text.forEach(l -> row.addAll(letters.get(l).steps()));
        return row;
    }

    private static <T> boolean has(List<T> list, int i) {
        return i >= 0 && i < list.size();
    }

    int step(int s) {
        return has(steps, s) ? goOn(List.of(s)) : -1;
    }

    private int goOn(List<Integer> more) {
        List<Integer> all = new ArrayList<>(walk);
        all.addAll(more);
        if (turn(all, 0) < 0 || time(all) > 60) {
            return -1;
        }
        walk = all;
        return time(walk);
    }

    int say(int t) {
        return has(texts, t) ? goOn(walkOf(texts.get(t))) : -1;
    }

    int stop() {
        int took = time(walk);
        walk = new ArrayList<>();
        return took;
    }

    int heard(int ear, int moment) {
        return has(ears, ear) && has(hears(ear, walk), moment) ? hears(ear, walk).get(moment) : -1;
    }

    // ---- rows of letters or of steps

    private List<List<Integer>> items;
    private List<Integer> allowed;
    private Fit fit;
    private int whole;
    private Map<List<Integer>, BigInteger> known;

    private BigInteger count(int at, int foot, int left) {
        if (at == whole) {
            return BigInteger.ONE;
        }
        List<Integer> key = List.of(at, foot, left);
        if (!known.containsKey(key)) {
            BigInteger sum = BigInteger.ZERO;
            for (int i : allowed) {
                sum = sum.add(countBy(i, at, foot, left));
            }
            known.put(key, sum);
        }
        return known.get(key);
    }

    private BigInteger countBy(int item, int at, int foot, int left) {
        List<Integer> row = items.get(item);
        if (turn(row, foot) < 0 || at + time(row) > whole) {
            return BigInteger.ZERO;
        }
        int missed = fit.missed(row, at);
        return missed < 0 || missed > left ? BigInteger.ZERO : count(at + time(row), turn(row, foot), left - missed);
    }

    private BigInteger countAll(List<List<Integer>> these, List<Integer> those, Fit how, int time, int missed) {
        items = these;
        allowed = those;
        fit = how;
        whole = time;
        known = new HashMap<>();
        return count(0, 0, missed);
    }

    private long lay(BigInteger many, int missed) {
        lying = new ArrayList<>();
        int at = 0;
        int foot = 0;
        int left = missed;
        while (many.signum() > 0 && at < whole) {
            for (int i : allowed) {
                if (countBy(i, at, foot, left).signum() > 0) {
                    List<Integer> row = items.get(i);
                    lying.add(i);
                    left -= fit.missed(row, at);
                    foot = turn(row, foot);
                    at += time(row);
                    break;
                }
            }
        }
        return many.min(MOST).longValue();
    }

    private List<List<Integer>> rowsOfLetters() {
        return letters.stream().map(Letter::steps).toList();
    }

    private List<List<Integer>> rowsOfSteps() {
        List<List<Integer>> rows = new ArrayList<>();
        for (int s = 0; s < steps.size(); s++) {
            rows.add(List.of(s));
        }
        return rows;
    }

    private static List<Integer> upTo(int n) {
        List<Integer> all = new ArrayList<>();
        for (int i = 0; i < n; i++) {
            all.add(i);
        }
        return all;
    }

    private List<Integer> book(int ear) {
        List<Integer> book = ears.get(ear).book();
        List<Integer> all = book == null ? upTo(letters.size()) : new ArrayList<>(book);
        all.sort(null);
        return all;
    }

    private Fit as(int ear, List<Integer> heard) {
        return (row, moment) -> {
            List<Integer> would = hears(ear, row);
            int missed = 0;
            for (int i = 0; i < would.size(); i++) {
                int here = heard.get(moment + i);
                if (here != would.get(i)) {
                    if (here != 0) {
                        return -1;
                    }
                    missed++;
                }
            }
            return missed;
        };
    }

    private BigInteger readsOf(int ear, List<Integer> row, int missed) {
        return countAll(rowsOfLetters(), book(ear), as(ear, hears(ear, row)), time(row), missed);
    }

    long reads(int ear, int missed) {
        lying = new ArrayList<>();
        if (!has(ears, ear) || missed < 0 || missed > 3) {
            return -1;
        }
        return lay(readsOf(ear, walk, missed), missed);
    }

    int stuck(int ear) {
        if (!has(ears, ear)) {
            return -2;
        }
        for (int m = 0; m < time(walk); m++) {
            if (!canHear(ear, m, new ArrayList<>(), new HashMap<>())) {
                return m;
            }
        }
        return -1;
    }

    private boolean canHear(int ear, int m, List<Integer> row, Map<List<Integer>, Boolean> done) {
        List<Integer> would = hears(ear, row);
        List<Integer> is = hears(ear, walk);
        int upTo = Math.min(would.size(), m + 1);
        if (time(row) > 60 || turn(row, 0) < 0 || !would.subList(0, upTo).equals(is.subList(0, upTo))) {
            return false;
        }
        if (time(row) > m) {
            return true;
        }
        List<Integer> key = List.of(time(row), turn(row, 0));
        if (!done.containsKey(key)) {
            boolean can = false;
            for (int l : book(ear)) {
                List<Integer> more = new ArrayList<>(row);
                more.addAll(letters.get(l).steps());
                can = can || canHear(ear, m, more, done);
            }
            done.put(key, can);
        }
        return done.get(key);
    }

    int alike(int ear, int a, int b, int foot) {
        if (!has(ears, ear) || !has(letters, a) || !has(letters, b) || foot < 0 || foot > 1) {
            return -1;
        }
        List<Integer> x = letters.get(a).steps();
        List<Integer> y = letters.get(b).steps();
        return turn(x, foot) >= 0 && turn(y, foot) >= 0 && hears(ear, x).equals(hears(ear, y)) ? 1 : 0;
    }

    // ---- texts

    int tell(int t, int letter) {
        if (!has(texts, t) || !has(letters, letter)) {
            return -1;
        }
        List<Integer> all = new ArrayList<>(texts.get(t));
        all.add(letter);
        if (turn(walkOf(all), 0) < 0 || time(walkOf(all)) > 60) {
            return -1;
        }
        texts.set(t, all);
        return time(walkOf(all));
    }

    int hush(int t) {
        return has(texts, t) ? texts.set(t, new ArrayList<>()).size() : -1;
    }

    private boolean bothTakeTheSame() {
        return time(walkOf(texts.get(0))) == time(walkOf(texts.get(1)));
    }

    private BigInteger countDouble(int a, int b) {
        Fit first = as(a, hears(a, walkOf(texts.get(0))));
        Fit second = as(b, hears(b, walkOf(texts.get(1))));
        Fit both = (row, moment) -> first.missed(row, moment) == 0 && second.missed(row, moment) == 0 ? 0 : -1;
        return countAll(rowsOfSteps(), upTo(steps.size()), both, time(walkOf(texts.get(0))), 0);
    }

    long doubled(int a, int b) {
        lying = new ArrayList<>();
        if (!has(ears, a) || !has(ears, b) || a == b) {
            return -1;
        }
        return bothTakeTheSame() ? lay(countDouble(a, b), 0) : 0;
    }

    int secret(int a, int b, int third) {
        lying = new ArrayList<>();
        if (!has(ears, a) || !has(ears, b) || a == b || third != -1 && !has(ears, third) || third == a || third == b) {
            return -1;
        }
        if (!bothTakeTheSame()) {
            return 0;
        }
        countDouble(a, b);
        List<List<Integer>> first = new ArrayList<>();
        gather(new ArrayList<>(), first);
        for (int i = 0; i < first.size() && i < 500; i++) {
            if (third == -1 || readsOf(third, first.get(i), 0).signum() == 0) {
                lying = first.get(i);
                return 1;
            }
        }
        return first.size() > 500 ? -2 : 0;
    }

    /** The first 501 walks. */
    private void gather(List<Integer> row, List<List<Integer>> found) {
        if (time(row) == whole) {
            found.add(new ArrayList<>(row));
            return;
        }
        for (int s : allowed) {
            if (found.size() <= 500 && countBy(s, time(row), turn(row, 0), 0).signum() > 0) {
                row.add(s);
                gather(row, found);
                row.remove(row.size() - 1);
            }
        }
    }

    long timed(int time, int set) {
        if (time < 0 || time > 31) {
            return -1;
        }
        Fit inSet = (row, moment) -> {
            int now = moment;
            for (int s : row) {
                if (!steps.get(s).side().equals("still") && (set >>> now & 1) == 0) {
                    return -1;
                }
                now += steps.get(s).takes();
            }
            return 0;
        };
        return countAll(rowsOfLetters(), upTo(letters.size()), inSet, time, 0).min(MOST).longValue();
    }

    int dealt() {
        lying = upTo(letters.size());
        int[] best = {Integer.MAX_VALUE};
        permute(new ArrayList<>(), best);
        return best[0];
    }

    private void permute(List<Integer> whose, int[] best) {
        if (whose.size() == letters.size()) {
            int sum = texts.get(0).stream().mapToInt(l -> time(letters.get(whose.get(l)).steps())).sum();
            if (sum < best[0]) {
                best[0] = sum;
                lying = new ArrayList<>(whose);
            }
            return;
        }
        for (int row = 0; row < letters.size(); row++) {
            if (!whose.contains(row)) {
                whose.add(row);
                permute(whose, best);
                whose.remove(whose.size() - 1);
            }
        }
    }

    int limp(int what) {
        int turn = 0;
        int[] took = new int[2];
        for (int s : walk) {
            if (!steps.get(s).side().equals("still")) {
                took[turn] += steps.get(s).takes();
                turn = 1 - turn;
            }
        }
        int gcd = BigInteger.valueOf(took[0] - took[1]).gcd(BigInteger.valueOf(took[0] + took[1])).intValue();
        return what == 0 ? gcd == 0 ? 0 : (took[0] - took[1]) / gcd : what == 1 ? gcd == 0 ? 1 : (took[0] + took[1]) / gcd : -1;
    }

    int cobble(int s, int by) {
        if (!has(steps, s) || by < -9 || by > 9 || loud[s] + by < 0 || loud[s] + by > 9) {
            return -1;
        }
        return loud[s] += by;
    }

    // ---- sounds

    int sound(int ear, int moment, int least, int most) {
        if (!has(ears, ear) || moment < 0 || moment > 59 || least < 0 || least > 9 || most < least || most > 9 || sounds.size() == 30) {
            return -1;
        }
        sounds.add(new Sound(ear, moment, least, most, day, new int[] {-1}));
        return sounds.size() - 1;
    }

    boolean untell(int i) {
        if (!has(sounds, i) || sounds.get(i).untold()[0] >= 0) {
            return false;
        }
        sounds.get(i).untold()[0] = day;
        return true;
    }

    int later(int by) {
        if (by < 0 || by > 1000 || day + by > 100000) {
            return -1;
        }
        return day += by;
    }

    private List<Sound> counting(int k) {
        return sounds.stream().filter(s -> s.told() <= k && !(s.untold()[0] >= 0 && s.untold()[0] <= k)).toList();
    }

    private BigInteger countMeant(int time, int k) {
        List<Sound> count = counting(k);
        Fit all = (row, moment) -> {
            for (Sound s : count) {
                List<Integer> would = hears(s.ear(), row);
                int i = s.moment() - moment;
                if (has(would, i) && (would.get(i) < s.least() || would.get(i) > s.most())) {
                    return -1;
                }
            }
            return 0;
        };
        BigInteger many = countAll(rowsOfLetters(), upTo(letters.size()), all, time, 0);
        boolean quiet = count.stream().allMatch(s -> s.moment() < time || s.least() == 0);
        return quiet ? many : BigInteger.ZERO;
    }

    long meant(int time, int k) {
        lying = new ArrayList<>();
        return time < 0 || time > 60 ? -1 : lay(countMeant(time, k), 0);
    }

    int can(int time, int there, int k) {
        if (time < 0 || time > 60 || there < 0 || there > 59) {
            return -1;
        }
        return countMeant(time, k).signum() == 0 ? 0 : standing(there, 0, 0, new HashMap<>());
    }

    private int standing(int ahead, int at, int foot, Map<List<Integer>, Integer> done) {
        List<Integer> key = List.of(ahead, at, foot);
        if (at == whole || done.containsKey(key)) {
            return at == whole ? 0 : done.get(key);
        }
        int bits = 0;
        for (int l : allowed) {
            if (countBy(l, at, foot, 0).signum() > 0) {
                List<Integer> row = items.get(l);
                bits |= ahead == 0 ? 1 << l : standing(ahead - 1, at + time(row), turn(row, foot), done);
            }
        }
        done.put(key, bits);
        return bits;
    }

    // ---- the rest

    int image(int box) {
        if (box < 0 || box > 2) {
            return -1;
        }
        boxes[box] = new Kept(walk, loud.clone());
        return time(walk);
    }

    int back(int box) {
        if (box < 0 || box > 2 || boxes[box] == null) {
            return -1;
        }
        walk = boxes[box].walk();
        loud = boxes[box].loud().clone();
        return time(walk);
    }

    int lies(int i) {
        return has(lying, i) ? lying.get(i) : -1;
    }

    int about(int what) {
        int[] all = {steps.size(), letters.size(), ears.size(), time(walk), walk.size(), turn(walk, 0),
            texts.get(0).size(), texts.get(1).size(), sounds.size(), day, tape.length(), lying.size()};
        return what >= 0 && what < all.length ? all[what] : -1;
    }

    @Override
    public String toString() {
        return steps + " " + letters + " " + ears + " walk " + walk + " loud " + Arrays.toString(loud) + " texts " + texts;
    }
}
