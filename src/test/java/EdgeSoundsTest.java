/** Each sentence of part 4 of the terms, and of promises 22 to 26, that names a boundary case. */
public final class EdgeSoundsTest {
    private static final Due due = new Due();
    private static final int MIN = Integer.MIN_VALUE;
    private static final int MAX = Integer.MAX_VALUE;
    private static final int ALL = 31;
    private static final String SCHOOL = "step s takes 1 loud 3;step t takes 2 loud 5;step p takes 1 loud 0 still;step l takes 1 loud 4 left;"
        + "letter a s;letter b t;letter c p;letter d s s;letter e l;ear x floors 0;ear y floors 3 book c;";

    public static void main(String[] args) {
        thirty();
        edgesOfSounds();
        soundIsRefused();
        untells();
        untellIsRefused();
        laters();
        laterIsRefused();
        knownAt();
        toldAndUntoldAtOnce();
        knownBehindSchool();
        meantByTime();
        meantBySounds();
        meantByEars();
        behindTheEnd();
        meantIsRefused();
        canStand();
        canByFeet();
        canAgain();
        canIsRefused();
        due.finish();
    }

    private static LimpCode taught() {
        return Due.taught(SCHOOL);
    }

    /** Sounds as ear, moment, least, most. */
    private static LimpCode heard(int... fours) {
        LimpCode x = taught();
        for (int i = 0; i < fours.length; i += 4) {
            if (x.sound(fours[i], fours[i + 1], fours[i + 2], fours[i + 3]) < 0) {
                due.is("the test's own sound " + i / 4, -1, 0);
            }
        }
        return x;
    }

    // ---- sound, untell, later

    private static void thirty() {
        due.says("SOUNDS, 30 at most: its number");
        LimpCode x = taught();
        for (int i = 0; i < 30; i++) {
            due.is("sound " + i, x.sound(i % 2, i, 0, 9), i);
        }
        due.is("a 31st", x.sound(0, 0, 0, 9), -1);
        due.is("30 then", x.about(8), 30);
        due.is("the last is one", x.untell(29), true);
        due.is("there is none behind it", x.untell(30), false);
        due.says("an UNTOLD SOUND is a SOUND");
        due.is("30 still", x.about(8), 30);
        due.is("no room still", x.sound(0, 0, 0, 9), -1);
        LimpCode y = heard(0, 0, 0, 9);
        y.untell(0);
        due.is("the number behind an untold one", y.sound(0, 0, 0, 9), 1);
    }

    private static void edgesOfSounds() {
        due.says("in a MOMENT (0 .. 59) an EAR HEARD from least to most (0 .. 9)");
        LimpCode x = taught();
        due.is("moment 0", x.sound(0, 0, 0, 9), 0);
        due.is("moment 59", x.sound(0, 59, 0, 9), 1);
        due.is("the last ear", x.sound(1, 0, 0, 9), 2);
        due.is("0 to 0", x.sound(0, 0, 0, 0), 3);
        due.is("9 to 9", x.sound(0, 0, 9, 9), 4);
        due.is("4 to 4", x.sound(0, 0, 4, 4), 5);
        due.is("the same again", x.sound(0, 0, 4, 4), 6);
    }

    private static void refusedSound(int ear, int moment, int least, int most) {
        String call = "sound(" + ear + ", " + moment + ", " + least + ", " + most + ")";
        Twins.same(due, call, () -> heard(0, 1, 0, 5), x -> due.is(call, x.sound(ear, moment, least, most), -1));
    }

    private static void soundIsRefused() {
        due.says("sound: NONE, doing nothing, if one can't be");
        for (int ear : new int[] {-1, 2, 3, 4, MIN, MAX}) {
            refusedSound(ear, 0, 0, 9);
        }
        for (int moment : new int[] {-1, 60, 61, MIN, MAX}) {
            refusedSound(0, moment, 0, 9);
        }
        for (int least : new int[] {-1, 10, MIN, MAX}) {
            refusedSound(0, 0, least, 9);
            refusedSound(0, 0, least, least);
        }
        for (int most : new int[] {-1, 10, MIN, MAX}) {
            refusedSound(0, 0, 0, most);
        }
        due.says("sound: NONE if one can't be (most below least, too)");
        refusedSound(0, 0, 1, 0);
        refusedSound(0, 0, 9, 8);
        refusedSound(0, 0, 9, 0);
        due.says("sound: NONE, doing nothing, if there are 30");
        Twins.same(due, "a 31st", () -> {
            LimpCode x = taught();
            for (int i = 0; i < 30; i++) {
                x.sound(0, 30 + i, 0, 9);
            }
            return x;
        }, x -> due.is("a 31st", x.sound(0, 0, 9, 9), -1));
    }

    private static void untells() {
        due.says("It is UNTOLD: true");
        LimpCode x = heard(0, 0, 3, 3, 0, 1, 4, 4);
        due.is("meant by both", x.meant(2, 0), 0);
        due.is("untell(0)", x.untell(0), true);
        due.is("meant by the other", x.meant(2, 0), 1);
        due.is("untell(1)", x.untell(1), true);
        due.is("meant by none", x.meant(2, 0), 9);
        due.says("untell: false if it is so already");
        due.is("untell(0) again", x.untell(0), false);
        due.is("untell(1) again", x.untell(1), false);
        // What is untold at 10 is so at 10, though it is asked for at 15 again.
        LimpCode y = heard(0, 0, 3, 3);
        y.later(10);
        due.is("untell at 10", y.untell(0), true);
        y.later(5);
        due.is("untell at 15", y.untell(0), false);
        due.is("as known at 9", y.meant(2, 9), 3);
        due.is("as known at 10", y.meant(2, 10), 9);
        due.is("as known at 14", y.meant(2, 14), 9);
    }

    private static void untellIsRefused() {
        due.says("untell: false if there is none such");
        for (int sound : new int[] {-1, 1, 2, 29, 30, 31, MIN, MAX}) {
            Twins.same(due, "untell(" + sound + ")", () -> heard(0, 0, 3, 3), x -> due.is("untell(" + sound + ")", x.untell(sound), false));
        }
        due.is("untell(0) of none", taught().untell(0), false);
    }

    private static void laters() {
        due.says("a TIME OF DAY (0 at first, goes on)");
        LimpCode x = new LimpCode();
        due.is("at first", x.about(9), 0);
        due.says("So much later (0 .. 1000): the TIME OF DAY");
        due.is("later(0)", x.later(0), 0);
        due.is("later(1)", x.later(1), 1);
        due.is("later(1000)", x.later(1000), 1001);
        due.is("later(0) then", x.later(0), 1001);
        due.is("about(9)", x.about(9), 1001);
    }

    private static void laterIsRefused() {
        due.says("later: NONE, doing nothing, for another number");
        for (int by : new int[] {-1, 1001, 1002, 100000, MIN, MAX}) {
            Twins.same(due, "later(" + by + ")", () -> {
                LimpCode x = heard(0, 0, 3, 3);
                x.later(5);
                return x;
            }, x -> due.is("later(" + by + ")", x.later(by), -1));
        }
        due.says("later: NONE, doing nothing, if it would be above 100,000");
        LimpCode x = new LimpCode();
        for (int i = 0; i < 99; i++) {
            x.later(1000);
        }
        due.is("to 99,001", x.later(1), 99001);
        due.is("to 100,001", x.later(1000), -1);
        due.is("it stays", x.about(9), 99001);
        due.is("to 100,000", x.later(999), 100000);
        due.is("to 100,001 by one", x.later(1), -1);
        due.is("to 100,000 by none", x.later(0), 100000);
        due.is("it stays, too", x.about(9), 100000);
    }

    // ---- known in two times

    private static void knownAt() {
        due.says("As known at k those count that were TOLD at k or before, not UNTOLD at k or before");
        LimpCode x = taught();
        x.later(1);
        x.sound(0, 0, 3, 3);
        x.later(5);
        x.sound(0, 1, 0, 0);
        x.later(5);
        x.untell(0);
        x.later(5);
        x.untell(1);
        int[] ks = {MIN, -1, 0, 1, 5, 6, 10, 11, 15, 16, 17, 100000, MAX};
        int[] want = {9, 9, 9, 3, 3, 1, 1, 4, 4, 9, 9, 9, 9};
        int[] firsts = {ALL, ALL, ALL, 9, 9, 1, 1, 23, 23, ALL, ALL, ALL, ALL};
        for (int i = 0; i < ks.length; i++) {
            due.is("meant(2, " + ks[i] + ")", x.meant(2, ks[i]), want[i]);
            due.is("can(2, 0, " + ks[i] + ")", x.can(2, 0, ks[i]), firsts[i]);
        }
    }

    private static void toldAndUntoldAtOnce() {
        due.says("UNTOLD at a later one or the same");
        LimpCode x = taught();
        x.later(3);
        x.sound(0, 0, 3, 3);
        due.is("as known at 3", x.meant(2, 3), 3);
        due.is("untell at 3", x.untell(0), true);
        for (int k = 2; k <= 4; k++) {
            due.is("as known at " + k, x.meant(2, k), 9);
            due.is("can at " + k, x.can(2, 0, k), ALL);
        }
        // Told again, it is another one.
        due.is("told again", x.sound(0, 0, 3, 3), 1);
        due.is("as known at 3 then", x.meant(2, 3), 3);
        due.is("as known at 2 then", x.meant(2, 2), 9);
    }

    private static void knownBehindSchool() {
        due.says("the TIME OF DAY stays: what is TOLD behind school() is TOLD then");
        LimpCode x = heard(0, 0, 3, 3);
        x.later(7);
        Due.put(x, SCHOOL);
        x.school();
        x.sound(0, 0, 4, 5);
        due.is("as known at 6", x.meant(2, 6), 9);
        due.is("as known at 7", x.meant(2, 7), 3);
    }

    // ---- meant

    private static void meant(LimpCode x, int time, long want, int... letters) {
        x.dealt();
        due.is("meant(" + time + ", 0)", x.meant(time, 0), want);
        due.lie("meant(" + time + ", 0)", x, letters);
    }

    private static void meantByTime() {
        due.says("MEANT by a TIME (0 .. 60): TEXTS of all LETTERS that take it");
        meant(taught(), 0, 1);
        meant(taught(), 1, 3, 0);
        meant(taught(), 2, 9, 0, 0);
        due.is("meant(59, 0)", taught().meant(59, 0), 1000000000000000L);
        LimpCode x = taught();
        due.is("meant(60, 0)", x.meant(60, 0), 1000000000000000L);
        due.is("60 lie there", x.about(11), 60);
        meant(Due.taught("step n takes 9 loud 1;letter a n;"), 54, 1, 0, 0, 0, 0, 0, 0);
        meant(Due.taught("step n takes 9 loud 1;letter a n;"), 60, 0);
        meant(Due.taught("step n takes 9 loud 1;"), 0, 1);
        meant(Due.taught("step n takes 1 loud 1;"), 1, 0);
        due.says("MEANT: a TEXT whose WALK is none takes no TIME");
        meant(Due.taught("step l takes 1 loud 1 left;step r takes 1 loud 1 right;letter a r;letter b l;"), 3, 1, 1, 0, 1);
    }

    private static void meantBySounds() {
        due.says("MEANT: in which each EAR HEARS as all that count tell");
        meant(heard(0, 0, 0, 9), 2, 9, 0, 0);
        meant(heard(0, 0, 3, 3), 2, 3, 0, 0);
        meant(heard(0, 0, 3, 4), 2, 5, 0, 0);
        meant(heard(0, 0, 4, 5), 2, 3, 1);
        meant(heard(0, 0, 0, 0), 2, 3, 2, 0);
        meant(heard(0, 0, 0, 2), 2, 3, 2, 0);
        meant(heard(0, 0, 5, 9), 2, 1, 1);
        meant(heard(0, 0, 6, 9), 2, 0);
        meant(heard(0, 1, 0, 0), 2, 4, 0, 2);
        meant(heard(0, 1, 3, 3), 2, 4, 0, 0);
        meant(heard(0, 1, 4, 4), 2, 1, 2, 4);
        meant(heard(0, 1, 1, 9), 2, 5, 0, 0);
        meant(heard(0, 0, 5, 5, 0, 1, 1, 9), 2, 0);
        // Two that count for one moment: both must hold.
        meant(heard(0, 0, 0, 4, 0, 0, 4, 9), 2, 2, 4, 0);
        meant(heard(0, 0, 0, 3, 0, 0, 4, 9), 2, 0);
        meant(heard(0, 0, 4, 9, 0, 0, 0, 9), 2, 3, 1);
    }

    private static void meantByEars() {
        due.says("MEANT: each EAR, TEXTS of all LETTERS whatever its book");
        meant(heard(1, 0, 0, 0), 2, 6, 0, 0);
        meant(heard(1, 0, 1, 1), 2, 2, 4, 0);
        meant(heard(1, 0, 2, 2), 2, 1, 1);
        meant(heard(1, 0, 3, 9), 2, 0);
        meant(heard(1, 0, 0, 0, 0, 0, 1, 9), 2, 3, 0, 0);
        meant(heard(0, 0, 4, 5, 1, 0, 0, 1), 2, 2, 4, 0);
    }

    private static void behindTheEnd() {
        due.says("(MOMENTS behind the end: 0)");
        for (int ear = 0; ear < 2; ear++) {
            meant(heard(ear, 2, 0, 0), 2, 9, 0, 0);
            meant(heard(ear, 2, 0, 9), 2, 9, 0, 0);
            meant(heard(ear, 2, 1, 9), 2, 0);
            meant(heard(ear, 59, 1, 9), 2, 0);
            meant(heard(ear, 59, 0, 1), 2, 9, 0, 0);
            meant(heard(ear, 0, 0, 9), 0, 1);
            meant(heard(ear, 0, 1, 9), 0, 0);
            due.is("can, something behind the end", heard(ear, 2, 1, 9).can(2, 0, 0), 0);
            due.is("can, nothing behind the end", heard(ear, 2, 0, 9).can(2, 0, 0), ALL);
            due.is("59 of 60", heard(ear, 59, 1, 9).meant(60, 0), 1000000000000000L);
            meant(heard(ear, 59, 1, 9), 59, 0);
        }
    }

    private static void meantIsRefused() {
        due.says("meant: NONE if the TIME can't be .. (behind 0, NONE: nothing)");
        for (int time : new int[] {-1, 61, 62, MIN, MAX}) {
            meant(taught(), time, -1);
            Twins.sameButLying(due, "meant(" + time + ", 0)", () -> heard(0, 0, 3, 3), x -> x.meant(time, 0));
        }
        Twins.sameButLying(due, "meant changes nothing else", () -> heard(0, 0, 3, 3), x -> x.meant(2, 0));
    }

    // ---- can

    private static void canStand() {
        due.says("CAN of a place (0 .. 59): LETTERS that stand there in some of these, as bits");
        LimpCode x = taught();
        due.is("can(2, 0, 0)", x.can(2, 0, 0), ALL);
        due.is("can(2, 1, 0)", x.can(2, 1, 0), 21);
        due.is("can(2, 2, 0)", x.can(2, 2, 0), 0);
        due.is("can(2, 59, 0)", x.can(2, 59, 0), 0);
        due.is("can(1, 0, 0)", x.can(1, 0, 0), 21);
        due.is("can(0, 0, 0)", x.can(0, 0, 0), 0);
        due.is("can(60, 0, 0)", x.can(60, 0, 0), ALL);
        due.is("can(60, 58, 0)", x.can(60, 58, 0), ALL);
        due.is("can(60, 59, 0)", x.can(60, 59, 0), 21);
        due.is("can(59, 59, 0)", x.can(59, 59, 0), 0);
        LimpCode y = heard(0, 1, 4, 4);
        due.is("can(2, 0, 0) of what was heard", y.can(2, 0, 0), 4);
        due.is("can(2, 1, 0) of what was heard", y.can(2, 1, 0), 16);
        // A letter that begins as was heard, but leads to no whole text, can't stand there.
        LimpCode z = Due.taught("step s takes 1 loud 1;step u takes 2 loud 1;letter a s;letter b u;letter c u u;ear e floors 0;");
        z.sound(0, 1, 0, 0);
        z.sound(0, 2, 0, 0);
        due.is("can(3, 0, 0) of none", z.can(3, 0, 0), 0);
        z.sound(0, 3, 0, 0);
        due.is("can(4, 0, 0) of none", z.can(4, 0, 0), 0);
        LimpCode w = Due.taught("step s takes 1 loud 1;step u takes 2 loud 1;letter a s;letter b u;letter c u u;letter d s s s;ear e floors 0;");
        w.sound(0, 1, 0, 0);
        due.is("can(4, 0, 0)", w.can(4, 0, 0), 6);
        due.is("can(4, 1, 0)", w.can(4, 1, 0), 3);
        due.is("can(4, 2, 0)", w.can(4, 2, 0), 1);
        due.is("can(3, 0, 0)", w.can(3, 0, 0), 2);
        due.is("ten letters", tenLetters().can(60, 59, 0), 1023);
    }

    private static void canByFeet() {
        due.says("CAN: a TEXT whose WALK is none takes no TIME");
        LimpCode x = Due.taught("step l takes 1 loud 1 left;step r takes 1 loud 1 right;step w takes 1 loud 1 still;letter a l;letter b r;letter c w w;letter d l r l;");
        // a b a b, a b c, a c b, c a b, c c, d b
        int[] of4 = {13, 7, 7, 2, 0};
        for (int place = 0; place < of4.length; place++) {
            due.is("can(4, " + place + ", 0)", x.can(4, place, 0), of4[place]);
            due.is("can(1, 0, 0)", x.can(1, 0, 0), 1);
        }
        LimpCode y = Due.taught("step l takes 1 loud 1 left;step r takes 1 loud 1 right;letter a l;letter b r;");
        for (int place = 0; place < 60; place++) {
            due.is("can(60, " + place + ", 0)", y.can(60, place, 0), place % 2 == 0 ? 1 : 2);
        }
    }

    private static void canAgain() {
        due.says("CAN: by what counts now, not by what counted before");
        LimpCode x = Due.taught("step s takes 1 loud 1;step u takes 2 loud 1;letter a s;letter b u;ear e floors 0;");
        due.is("can(3, 0, 0)", x.can(3, 0, 0), 3);
        x.sound(0, 1, 0, 0);
        due.is("b a alone", x.can(3, 0, 0), 2);
        x.sound(0, 2, 0, 0);
        due.is("none", x.can(3, 0, 0), 0);
        x.later(1);
        x.untell(1);
        due.is("b a alone again", x.can(3, 0, 1), 2);
        due.is("none as known before", x.can(3, 0, 0), 0);
    }

    private static LimpCode tenLetters() {
        StringBuilder s = new StringBuilder("step s takes 1 loud 1;");
        for (char c = 'a'; c <= 'j'; c++) {
            s.append("letter ").append(c).append(" s;");
        }
        return Due.taught(s.toString());
    }

    private static void canIsRefused() {
        due.says("can: NONE if one can't be");
        for (int time : new int[] {-1, 61, 62, MIN, MAX}) {
            due.is("can(" + time + ", 0, 0)", taught().can(time, 0, 0), -1);
        }
        for (int place : new int[] {-1, 60, 61, MIN, MAX}) {
            due.is("can(2, " + place + ", 0)", taught().can(2, place, 0), -1);
        }
        Twins.same(due, "can changes nothing", () -> {
            LimpCode x = heard(0, 0, 3, 3);
            x.meant(2, 0);
            return x;
        }, x -> {
            x.can(2, 0, 0);
            x.can(4, 1, 0);
            x.can(61, 0, 0);
            x.can(2, 60, 0);
        });
    }
}
