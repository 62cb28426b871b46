/** Promises 22 to 26: sound, untell, later, meant, can. */
public final class SoundsTest {
    private static final Due due = new Due();
    private static final String SCHOOL = "step s takes 1 loud 3;step t takes 2 loud 5;step p takes 1 loud 0 still;step l takes 1 loud 3 left;"
        + "letter a s;letter b t;letter c p;letter d s s;letter e l;ear x floors 0;ear y floors 3;";

    public static void main(String[] args) {
        sounds();
        laters();
        meant();
        known();
        behindTheEnd();
        can();
        due.finish();
    }

    private static void sounds() {
        LimpCode x = Due.taught(SCHOOL);
        due.is("sound(2, ..)", x.sound(2, 0, 0, 0), -1);
        due.is("sound(-1, ..)", x.sound(-1, 0, 0, 0), -1);
        due.is("sound at 60", x.sound(0, 60, 0, 0), -1);
        due.is("sound at -1", x.sound(0, -1, 0, 0), -1);
        due.is("least -1", x.sound(0, 0, -1, 0), -1);
        due.is("most 10", x.sound(0, 0, 0, 10), -1);
        due.is("least 10, most 10", x.sound(0, 0, 10, 10), -1);
        due.is("most below least", x.sound(0, 0, 5, 4), -1);
        due.is("none yet", x.about(8), 0);
        due.is("untell none", x.untell(0) ? 1 : 0, 0);
        for (int i = 0; i < 30; i++) {
            due.is("sound " + i, x.sound(i % 2, i + 30, 0, 9), i);
        }
        due.is("a 31st", x.sound(0, 0, 0, 9), -1);
        due.is("untell", x.untell(29) ? 1 : 0, 1);
        due.is("untell again", x.untell(29) ? 1 : 0, 0);
        due.is("untell(30)", x.untell(30) ? 1 : 0, 0);
        due.is("untell(-1)", x.untell(-1) ? 1 : 0, 0);
        due.is("an untold one is still one", x.about(8), 30);
        due.is("no room for another", x.sound(0, 0, 0, 9), -1);
    }

    private static void laters() {
        LimpCode x = new LimpCode();
        due.is("later(-1)", x.later(-1), -1);
        due.is("later(1001)", x.later(1001), -1);
        due.is("later(0)", x.later(0), 0);
        for (int i = 1; i <= 99; i++) {
            due.is("later(1000)", x.later(1000), 1000 * i);
        }
        due.is("to 99999", x.later(999), 99999);
        due.is("beyond", x.later(2), -1);
        due.is("to 100000", x.later(1), 100000);
        due.is("no later", x.later(1), -1);
        due.is("as late", x.later(0), 100000);
        due.is("about(9)", x.about(9), 100000);
    }

    private static void meant() {
        LimpCode x = Due.taught(SCHOOL);
        due.is("meant(0)", x.meant(0, 0), 1);
        due.lie("meant(0)", x);
        // a, c, e; and of 2: pairs, in which e is by the left foot, b, d.
        due.is("meant(1)", x.meant(1, 0), 3);
        due.lie("meant(1)", x, 0);
        due.is("meant(2)", x.meant(2, 0), 9);
        due.lie("meant(2)", x, 0, 0);
        x.sound(0, 0, 1, 5);
        x.sound(0, 0, 5, 9);
        due.is("meant by two sounds", x.meant(2, 0), 1);
        due.lie("meant by two sounds", x, 1);
        x.sound(1, 0, 2, 2);
        due.is("meant by two ears", x.meant(2, 0), 1);
        x.cobble(1, 1);
        due.is("meant by a cobbled step", x.meant(2, 0), 0);
        due.lie("meant by a cobbled step", x);
        x.cobble(1, -1);
        x.sound(0, 0, 0, 4);
        due.is("meant by what can't be at once", x.meant(2, 0), 0);
        due.is("meant(61)", x.meant(61, 0), -1);
        due.lie("meant(61)", x);
        x.dealt();
        due.is("meant(-1)", x.meant(-1, 0), -1);
        due.lie("meant(-1)", x);
        LimpCode y = Due.taught(SCHOOL);
        due.is("meant(60)", y.meant(60, 0), 1000000000000000L);
        due.is("60 lie there", y.about(11), 60);
        y.sound(0, 59, 3, 3);
        due.is("the last moment", y.meant(60, 0), 1000000000000000L);
        due.is("meant(59)", y.meant(59, 0), 0);
    }

    private static void known() {
        LimpCode x = Due.taught(SCHOOL);
        x.later(10);
        x.sound(0, 0, 5, 5);
        x.later(10);
        x.untell(0);
        x.sound(0, 0, 0, 0);
        x.later(5);
        x.sound(0, 1, 3, 3);
        x.untell(2);
        due.is("as known at 9", x.meant(2, 9), 9);
        due.is("as known at -5", x.meant(2, -5), 9);
        due.is("as known at MIN", x.meant(2, Integer.MIN_VALUE), 9);
        due.is("as known at 10", x.meant(2, 10), 1);
        due.is("as known at 19", x.meant(2, 19), 1);
        due.is("as known at 20", x.meant(2, 20), 3);
        due.is("as known at 25", x.meant(2, 25), 3);
        due.is("as known at MAX", x.meant(2, Integer.MAX_VALUE), 3);
        due.is("can at 10", x.can(2, 0, 10), 2);
        due.is("can at 20", x.can(2, 0, 20), 4);
        due.is("can at 9", x.can(2, 0, 9), 31);
    }

    private static void behindTheEnd() {
        LimpCode x = Due.taught(SCHOOL);
        x.sound(0, 1, 0, 3);
        due.is("0 behind the end", x.meant(1, 0), 3);
        due.is("0 behind no text", x.meant(0, 0), 1);
        x.sound(1, 2, 1, 9);
        due.is("something behind the end", x.meant(2, 0), 0);
        due.is("something behind no text", x.meant(0, 0), 0);
        due.is("something in no step's first moment", x.meant(3, 0), 0);
        due.is("something in one", x.meant(4, 0) > 0 ? 1 : 0, 1);
    }

    private static void can() {
        LimpCode x = Due.taught(SCHOOL);
        due.is("can(2, 0)", x.can(2, 0, 0), 31);
        due.is("can(2, 1)", x.can(2, 1, 0), 1 | 4 | 16);
        due.is("can(2, 2)", x.can(2, 2, 0), 0);
        due.is("can(0, 0)", x.can(0, 0, 0), 0);
        due.is("can(60, 59)", x.can(60, 59, 0), 1 | 4 | 16);
        due.is("can(60, 58)", x.can(60, 58, 0), 31);
        due.is("can(59, 59)", x.can(59, 59, 0), 0);
        due.is("can(61, 0)", x.can(61, 0, 0), -1);
        due.is("can(-1, 0)", x.can(-1, 0, 0), -1);
        due.is("can(0, 60)", x.can(0, 60, 0), -1);
        due.is("can(0, -1)", x.can(0, -1, 0), -1);
        x.sound(0, 0, 3, 3);
        x.sound(0, 1, 3, 3);
        due.is("can of what was heard", x.can(2, 0, 0), 1 | 8 | 16);
        due.is("can of what was heard then", x.can(2, 1, 0), 1);
        x.sound(0, 30, 1, 1);
        due.is("can of none", x.can(2, 0, 0), 0);
        x.dealt();
        x.can(2, 0, 0);
        due.is("what lies there stays", x.about(11), 5);
    }
}
