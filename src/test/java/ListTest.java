import java.util.ArrayList;
import java.util.Arrays;
import java.util.List;
import java.util.Random;
import java.util.function.Predicate;

/** Small schools of which every walk and every text is written down, one by one, in the document's order: what it says of them is asked of each. */
public final class ListTest {
    private static final Due due = new Due();
    private static final int SEEDS = 1500;
    private static final int LONGEST = 6;
    private static final int STILL = 3;
    private static final String[] SIDES = {" left", " right", "", " still"};

    private final Random random;
    private final LimpCode x = new LimpCode();
    private int[] takes;
    private int[] loud;
    private int[] sides;
    private int[][] rows;
    private int[] floors;
    private final List<List<Integer>> books = new ArrayList<>();
    private final List<int[]> texts = new ArrayList<>();
    private final List<int[]> walks = new ArrayList<>();
    private int[] earnest;
    private String school;

    private ListTest(long seed) {
        random = new Random(seed);
    }

    public static void main(String[] args) {
        for (int seed = 0; seed < SEEDS; seed++) {
            ListTest t = new ListTest(seed);
            t.teach();
            t.tryWalk();
            t.tryTexts();
            t.trySounds();
        }
        due.finish();
    }

    // ---- a school, and all its texts and walks up to LONGEST, the first first

    private void teach() {
        int steps = 1 + random.nextInt(4);
        takes = random.ints(steps, 1, 3).toArray();
        loud = random.ints(steps, 0, 4).toArray();
        sides = random.ints(steps, 0, 4).toArray();
        rows = new int[1 + random.nextInt(4)][];
        for (int l = 0; l < rows.length; l++) {
            rows[l] = random.ints(1 + random.nextInt(3), 0, steps).toArray();
        }
        floors = random.ints(3, 0, 3).toArray();
        for (int ear = 0; ear < 3; ear++) {
            books.add(someBook());
        }
        school = written();
        Due.put(x, school);
        due.is("school of <" + school + ">", x.school(), rows.length);
        int s = random.nextInt(steps);
        if (x.cobble(s, 1) != LimpCode.NONE) {
            loud[s]++;
        }
        list(new int[0], rows.length, texts, true);
        list(new int[0], steps, walks, false);
    }

    private List<Integer> someBook() {
        List<Integer> book = new ArrayList<>();
        for (int l = 0; l < rows.length; l++) {
            if (random.nextInt(4) > 0) {
                book.add(l);
            }
        }
        return book;
    }

    private String written() {
        StringBuilder s = new StringBuilder();
        for (int i = 0; i < takes.length; i++) {
            s.append("step ").append((char) ('a' + i)).append(" takes ").append(takes[i]).append(" loud ").append(loud[i]).append(SIDES[sides[i]]).append(";");
        }
        for (int l = 0; l < rows.length; l++) {
            s.append("letter ").append((char) ('p' + l));
            for (int step : rows[l]) {
                s.append(" ").append((char) ('a' + step));
            }
            s.append(";");
        }
        for (int ear = 0; ear < 3; ear++) {
            s.append("ear ").append((char) ('x' + ear)).append(" floors ").append(floors[ear]);
            if (books.get(ear).isEmpty()) {
                books.get(ear).clear();
                for (int l = 0; l < rows.length; l++) {
                    books.get(ear).add(l);
                }
            } else {
                s.append(" book");
                books.get(ear).forEach(l -> s.append(" ").append((char) ('p' + l)));
            }
            s.append(";");
        }
        return s.toString();
    }

    /** A row and then all that begin with it; those that took too long already are not gone on from. */
    private void list(int[] row, int kinds, List<int[]> into, boolean ofLetters) {
        int[] walk = ofLetters ? walkOf(row) : row;
        if (footBehind(walk, 0) < 0) {
            return;
        }
        into.add(row);
        for (int next = 0; next < kinds && timeOf(walk) < LONGEST; next++) {
            int[] longer = Arrays.copyOf(row, row.length + 1);
            longer[row.length] = next;
            list(longer, kinds, into, ofLetters);
        }
    }

    private int[] walkOf(int[] text) {
        return Arrays.stream(text).flatMap(l -> Arrays.stream(rows[l])).toArray();
    }

    private int timeOf(int[] walk) {
        return Arrays.stream(walk).map(s -> takes[s]).sum();
    }

    /** Below 0 if a step can't be by the foot whose turn it is. */
    private int footBehind(int[] walk, int first) {
        int foot = first;
        for (int s : walk) {
            if (sides[s] != STILL) {
                if (sides[s] == 1 - foot) {
                    return -1;
                }
                foot = 1 - foot;
            }
        }
        return foot;
    }

    private int hears(int ear, int[] walk, int moment) {
        int begins = 0;
        for (int s : walk) {
            if (begins == moment) {
                return Math.max(0, loud[s] - floors[ear]);
            }
            begins += takes[s];
        }
        return 0;
    }

    // ---- what is asked of each

    private boolean isOfBook(int ear, int[] text) {
        return Arrays.stream(text).allMatch(l -> books.get(ear).contains(l));
    }

    private boolean isRead(int ear, int[] text, int[] walk, int missed) {
        int[] own = walkOf(text);
        if (!isOfBook(ear, text) || timeOf(own) != timeOf(walk)) {
            return false;
        }
        int more = 0;
        for (int m = 0; m < timeOf(walk); m++) {
            int is = hears(ear, walk, m);
            int would = hears(ear, own, m);
            if (is != would && is != 0) {
                return false;
            }
            more += is != would ? 1 : 0;
        }
        return more <= missed;
    }

    private boolean isHeardUpTo(int ear, int[] text, int moment) {
        int[] own = walkOf(text);
        if (!isOfBook(ear, text) || timeOf(own) <= moment) {
            return false;
        }
        for (int m = 0; m <= moment; m++) {
            if (hears(ear, own, m) != hears(ear, earnest, m)) {
                return false;
            }
        }
        return true;
    }

    private int stuckOf(int ear) {
        for (int m = 0; m < timeOf(earnest); m++) {
            int moment = m;
            if (texts.stream().noneMatch(t -> isHeardUpTo(ear, t, moment))) {
                return m;
            }
        }
        return LimpCode.NONE;
    }

    private boolean hearsSame(int ear, int[] walk, int[] other) {
        for (int m = 0; m < LONGEST + 9; m++) {
            if (hears(ear, walk, m) != hears(ear, other, m)) {
                return false;
            }
        }
        return timeOf(walk) == timeOf(other);
    }

    private boolean isInSet(int[] walk, int set) {
        int begins = 0;
        for (int s : walk) {
            if (sides[s] != STILL && (set >>> begins & 1) == 0) {
                return false;
            }
            begins += takes[s];
        }
        return true;
    }

    private static List<int[]> those(List<int[]> of, Predicate<int[]> which) {
        return of.stream().filter(which).toList();
    }

    private void layFirst(String call, List<int[]> all) {
        due.is("how many lie behind " + call, x.about(11), all.isEmpty() ? 0 : all.get(0).length);
        for (int i = 0; !all.isEmpty() && i < all.get(0).length; i++) {
            due.is("lies(" + i + ") behind " + call, x.lies(i), all.get(0)[i]);
        }
    }

    private int[] someWalk() {
        List<int[]> inTime = those(walks, w -> timeOf(w) <= LONGEST);
        return inTime.get(random.nextInt(inTime.size()));
    }

    private void tryWalk() {
        earnest = random.nextInt(3) == 0 ? someWalk() : walkOf(someText());
        for (int s : earnest) {
            x.step(s);
        }
        due.is("time of the walk in <" + school + ">", x.about(3), timeOf(earnest));
        due.is("turn behind the walk in <" + school + ">", x.about(5), footBehind(earnest, 0));
        for (int ear = 0; ear < 3; ear++) {
            int e = ear;
            for (int m = 0; m < timeOf(earnest); m++) {
                due.is("heard(" + ear + ", " + m + ")", x.heard(ear, m), hears(ear, earnest, m));
            }
            for (int missed = 0; missed <= 3; missed++) {
                int many = missed;
                String call = "reads(" + ear + ", " + missed + ") of <" + school + ">";
                List<int[]> all = those(texts, t -> isRead(e, t, earnest, many));
                due.is(call, x.reads(ear, missed), all.size());
                layFirst(call, all);
            }
            due.is("stuck(" + ear + ") of <" + school + ">", x.stuck(ear), stuckOf(ear));
            tryAlike(ear);
        }
        tryLimp();
    }

    private void tryLimp() {
        int[] took = new int[2];
        for (int i = 0; i < earnest.length; i++) {
            if (sides[earnest[i]] != STILL) {
                took[footBehind(Arrays.copyOf(earnest, i), 0)] += takes[earnest[i]];
            }
        }
        int upper = took[0] - took[1];
        int lower = took[0] + took[1];
        for (int by = lower; by > 1; by--) {
            if (upper % by == 0 && lower % by == 0) {
                upper /= by;
                lower /= by;
            }
        }
        due.is("limp(0) of <" + school + ">", x.limp(0), upper);
        due.is("limp(1) of <" + school + ">", x.limp(1), Math.max(lower, 1));
    }

    private void tryAlike(int ear) {
        for (int a = 0; a < rows.length; a++) {
            for (int b = 0; b < rows.length; b++) {
                for (int foot = 0; foot < 2; foot++) {
                    boolean can = footBehind(rows[a], foot) >= 0 && footBehind(rows[b], foot) >= 0;
                    due.is("alike(" + ear + ", " + a + ", " + b + ", " + foot + ")", x.alike(ear, a, b, foot), can && hearsSame(ear, rows[a], rows[b]) ? 1 : 0);
                }
            }
        }
    }

    private int[] someText() {
        List<int[]> inTime = those(texts, t -> timeOf(walkOf(t)) <= LONGEST);
        return inTime.get(random.nextInt(inTime.size()));
    }

    private void tryTexts() {
        int[] zero = someText();
        List<int[]> like = those(texts, t -> timeOf(walkOf(t)) == timeOf(walkOf(zero)));
        int[] one = random.nextInt(3) == 0 ? zero : like.get(random.nextInt(like.size()));
        for (int l : zero) {
            x.tell(0, l);
        }
        for (int l : one) {
            x.tell(1, l);
        }
        tryDeal(zero);
        for (int a = 0; a < 3; a++) {
            int first = a;
            int second = (a + 1 + random.nextInt(2)) % 3;
            String ears = "(" + first + ", " + second + ") of <" + school + ">";
            List<int[]> all = those(walks, w -> hearsSame(first, w, walkOf(zero)) && hearsSame(second, w, walkOf(one)));
            due.is("doubled" + ears, x.doubled(first, second), all.size());
            layFirst("doubled" + ears, all);
            trySecret(first, second, all);
        }
        for (int time = 0; time <= LONGEST; time++) {
            int set = random.nextInt() | random.nextInt();
            int t = time;
            due.is("timed(" + time + ", " + set + ") of <" + school + ">", x.timed(time, set),
                those(texts, text -> timeOf(walkOf(text)) == t && isInSet(walkOf(text), set)).size());
        }
    }

    /** Every way of dealing is written down too, in its order: any row to each letter, those with a row twice left out. */
    private void tryDeal(int[] zero) {
        int ways = (int) Math.pow(rows.length, rows.length);
        int[] best = null;
        for (int way = 0; way < ways; way++) {
            int[] whose = new int[rows.length];
            for (int l = rows.length - 1, rest = way; l >= 0; l--, rest /= rows.length) {
                whose[l] = rest % rows.length;
            }
            boolean each = Arrays.stream(whose).distinct().count() == rows.length;
            if (each && (best == null || takesIfDealt(zero, whose) < takesIfDealt(zero, best))) {
                best = whose;
            }
        }
        due.is("dealt() of <" + school + ">", x.dealt(), takesIfDealt(zero, best));
        layFirst("dealt()", List.of(best));
    }

    private int takesIfDealt(int[] text, int[] whose) {
        return Arrays.stream(text).map(l -> timeOf(rows[whose[l]])).sum();
    }

    private void trySecret(int first, int second, List<int[]> all) {
        int third = 3 - first - second;
        String call = "secret(" + first + ", " + second + ", " + third + ") of <" + school + ">";
        List<int[]> tried = all.size() > 500 ? all.subList(0, 500) : all;
        List<int[]> unread = those(tried, w -> texts.stream().noneMatch(t -> isRead(third, t, w, 0)));
        due.is(call, x.secret(first, second, third), !unread.isEmpty() ? 1 : all.size() > 500 ? -2 : 0);
        layFirst(call, unread);
    }

    // ---- sounds: each is kept as ear, moment, least, most, told at, untold at

    private void trySounds() {
        List<int[]> sounds = new ArrayList<>();
        int[] wanted = walkOf(someText());
        int day = 0;
        for (int i = 0; i < 6; i++) {
            int ear = random.nextInt(3);
            int moment = random.nextInt(LONGEST + 1);
            int is = hears(ear, wanted, moment);
            int least = Math.max(0, is - random.nextInt(2));
            int most = Math.max(least, is + random.nextInt(3) - (random.nextInt(5) == 0 ? 1 : 0));
            due.is("sound", x.sound(ear, moment, least, most), i);
            sounds.add(new int[] {ear, moment, least, most, day, Integer.MAX_VALUE});
            day = x.later(random.nextInt(2));
            int old = random.nextInt(i + 1);
            if (random.nextInt(3) == 0 && x.untell(old)) {
                sounds.get(old)[5] = day;
            }
        }
        for (int k = -1; k <= day + 1; k++) {
            int time = random.nextInt(3) == 0 ? random.nextInt(LONGEST + 1) : timeOf(wanted);
            tryMeant(sounds, time, k);
        }
    }

    private void tryMeant(List<int[]> sounds, int time, int k) {
        List<int[]> count = those(sounds, s -> s[4] <= k && s[5] > k);
        List<int[]> all = those(texts, t -> timeOf(walkOf(t)) == time && count.stream().allMatch(s -> isAsTold(s, walkOf(t))));
        String call = "(" + time + ", " + k + ") of <" + school + ">";
        due.is("meant" + call, x.meant(time, k), all.size());
        layFirst("meant" + call, all);
        for (int place = 0; place <= LONGEST; place++) {
            int bits = 0;
            for (int[] text : all) {
                bits |= place < text.length ? 1 << text[place] : 0;
            }
            due.is("can of place " + place + call, x.can(time, place, k), bits);
        }
    }

    private boolean isAsTold(int[] sound, int[] walk) {
        int heard = hears(sound[0], walk, sound[1]);
        return heard >= sound[2] && heard <= sound[3];
    }
}
