/** Promises 1 to 5: a new object, feed, end, school, fault. */
public final class SchoolTest {
    private static final Due due = new Due();
    private static final String STEP = "step s takes 1 loud 1;";
    private static final String LETTER = STEP + "letter a s;";

    public static void main(String[] args) {
        newObject();
        tape();
        tapeOrder();
        schoolBegins();
        schoolForgets();
        faultKeepsAll();
        tokens();
        misplaced();
        toldAlready();
        numbers();
        unknown();
        limits();
        due.finish();
    }

    private static void newObject() {
        LimpCode x = new LimpCode();
        for (int what = 0; what <= 11; what++) {
            due.is("new about(" + what + ")", x.about(what), 0);
        }
        due.is("new fault(0)", x.fault(0), 0);
        due.is("new fault(1)", x.fault(1), -1);
        due.is("new step", x.step(0), -1);
        due.is("new tell", x.tell(0, 0), -1);
        due.is("new heard", x.heard(0, 0), -1);
        due.is("new stuck", x.stuck(0), -2);
        due.is("new cobble", x.cobble(0, 0), -1);
        due.is("new sound", x.sound(0, 0, 0, 9), -1);
        due.is("new back", x.back(0), -1);
        due.is("new dealt", x.dealt(), 0);
        due.is("new can", x.can(0, 0, 0), 0);
        due.is("new stop", x.stop(), 0);
        due.is("new secret", x.secret(0, 1, -1), -1);
        due.is("new school", x.school(), 0);
    }

    private static void tape() {
        LimpCode x = new LimpCode();
        due.is("end(-1)", x.end(-1), -1);
        due.is("end(1) of an empty tape", x.end(1), -1);
        due.is("end(0)", x.end(0), 0);
        for (int i = 1; i <= 80; i++) {
            due.is("feed " + i, x.feed(0, 0, 0, 0, 0), 20 * i);
        }
        due.is("feed beyond 1600", x.feed(0, 0, 0, 0, 0), -1);
        due.is("bytes then", x.about(10), 1600);
        due.is("end(1601)", x.end(1601), -1);
        due.is("end(1581)", x.end(1581), 1581);
        due.is("feed to 1601", x.feed(0, 0, 0, 0, 0), -1);
        due.is("end(1580)", x.end(1580), 1580);
        due.is("feed to 1600", x.feed(0, 0, 0, 0, 0), 1600);
        due.is("end(MIN)", x.end(Integer.MIN_VALUE), -1);
        due.is("end(MAX)", x.end(Integer.MAX_VALUE), -1);
        due.is("bytes at last", x.about(10), 1600);
    }

    private static void tapeOrder() {
        LimpCode x = new LimpCode();
        x.feed(0x73746570, 0x20732074, 0x616b6573, 0x2031206c, 0x6f756420);
        x.feed(0x313b0000, -1, -1, -1, -1);
        due.is("end(22)", x.end(22), 22);
        due.is("school of a step", x.school(), 0);
        due.is("steps", x.about(0), 1);
        due.is("the tape is empty then", x.about(10), 0);
        String full = " ".repeat(1600 - STEP.length()) + STEP;
        Due.put(x, full);
        due.is("1600 bytes", x.about(10), 1600);
        due.is("a school of 1600 bytes", x.school(), 0);
        due.is("its steps", x.about(0), 1);
    }

    private static void schoolBegins() {
        LimpCode x = Due.taught("step\ns\ntakes0001 loud0000 still;letter s s s;letter t s;ear s floors 0009 book t s;ear t floors 0;");
        due.is("steps", x.about(0), 1);
        due.is("letters", x.about(1), 2);
        due.is("ears", x.about(2), 2);
        due.is("tell", x.tell(0, 0), 2);
        due.is("fault(0)", x.fault(0), 0);
        due.is("fault(1)", x.fault(1), -1);
        due.is("fault(-1)", x.fault(-1), -1);
        due.is("fault(2)", x.fault(2), -1);
        // An ear without a book knows letters told behind it; one with a book only those in it.
        LimpCode y = Due.taught(LETTER + "ear e floors 0;ear f floors 0 book a;letter b s s;");
        y.step(0);
        y.step(0);
        due.is("reads without a book", y.reads(0, 0), 2);
        due.is("reads by a book", y.reads(1, 0), 1);
    }

    private static LimpCode busy() {
        LimpCode x = Due.taught(LETTER + "ear e floors 0;");
        x.step(0);
        x.cobble(0, 3);
        x.tell(0, 0);
        x.tell(1, 0);
        x.tell(1, 0);
        x.later(7);
        x.sound(0, 0, 1, 4);
        for (int box = 0; box < 3; box++) {
            x.image(box);
        }
        x.reads(0, 0);
        return x;
    }

    private static void schoolForgets() {
        LimpCode x = busy();
        due.is("lies before", x.about(11), 1);
        Due.put(x, LETTER + "ear e floors 0;");
        due.is("school", x.school(), 1);
        int[] want = {1, 1, 1, 0, 0, 0, 0, 0, 0, 7, 0, 0};
        for (int what = 0; what < want.length; what++) {
            due.is("about(" + what + ") behind school", x.about(what), want[what]);
        }
        for (int box = 0; box < 3; box++) {
            due.is("back(" + box + ") behind school", x.back(box), -1);
        }
        due.is("not cobbled behind school", x.cobble(0, 0), 1);
        due.is("untell behind school", x.untell(0) ? 1 : 0, 0);
        due.is("school of nothing", x.school(), 0);
        due.is("no steps", x.about(0), 0);
        due.is("time of day stays", x.about(9), 7);
    }

    private static void faultKeepsAll() {
        LimpCode x = busy();
        int[] want = new int[12];
        for (int what = 0; what < want.length; what++) {
            want[what] = x.about(what);
        }
        Due.put(x, "step t takes 1 loud 1;step u takes 1 loud 1;!");
        due.is("a fault", x.school(), -1);
        for (int what = 0; what < want.length; what++) {
            due.is("about(" + what + ") behind a fault", x.about(what), want[what]);
        }
        due.is("cobbled stays", x.cobble(0, 0), 4);
        due.is("the box stays", x.back(1), 1);
        due.is("heard stays", x.heard(0, 0), 4);
        due.is("fault(0)", x.fault(0), 1);
        due.is("fault(1)", x.fault(1), 44);
        due.is("school behind it", x.school(), 0);
        due.is("fault(0) then", x.fault(0), 0);
        due.is("fault(1) then", x.fault(1), -1);
    }

    private static void fault(String text, int fault, int place) {
        LimpCode x = new LimpCode();
        Due.put(x, text);
        due.is("school of <" + text + ">", x.school(), -1);
        due.is("fault of <" + text + ">", x.fault(0), fault);
        due.is("place in <" + text + ">", x.fault(1), place);
        due.is("the tape behind <" + text + ">", x.about(10), 0);
    }

    private static void tokens() {
        fault("Step", 1, 0);
        fault("\tstep", 1, 0);
        fault("\rstep", 1, 0);
        fault("step \u00e9", 1, 5);
        fault("step abcdefghi", 1, 5);
        fault("step s takes 1loud 1;", 1, 13);
        fault("step s takes 00001", 1, 13);
        fault("step s takes 1 loud 1!", 1, 21);
        fault("step s takes 1 loud 1,", 1, 21);
        fault("step s takes -1", 1, 13);
        fault("  #", 1, 2);
        fault(LETTER + "ear e floors 1 book a_", 1, 54);
        LimpCode x = Due.taught("step abcdefgh takes 1 loud 1;letter a abcdefgh;");
        due.is("a word of 8", x.about(1), 1);
    }

    private static void misplaced() {
        fault("s", 2, 0);
        fault(";", 2, 0);
        fault("12", 2, 0);
        fault("step", 2, 4);
        fault("step  \n", 2, 7);
        fault("step ;", 2, 5);
        fault("step 1", 2, 5);
        fault("steps s", 2, 0);
        for (String word : new String[] {"step", "takes", "loud", "left", "right", "still", "letter", "ear", "floors", "book"}) {
            fault("step " + word, 2, 5);
            fault("letter " + word, 2, 7);
            fault("ear " + word, 2, 4);
            fault(STEP + "letter a " + word, 2, 31);
            fault(LETTER + "ear e floors 0 book " + word, 2, 53);
        }
        fault("step s loud", 2, 7);
        fault("step s takes s", 2, 13);
        fault("step s takes ;", 2, 13);
        fault("step s takes 1 1", 2, 15);
        fault("step s takes 1 loud loud", 2, 20);
        fault("step s takes 1 loud 1 book", 2, 22);
        fault("step s takes 1 loud 1 left right;", 2, 27);
        fault("step s takes 1 loud 1", 2, 21);
        fault(STEP + ";", 2, 22);
        fault(STEP + "letter a;", 2, 30);
        fault(STEP + "letter a s 1", 2, 33);
        fault(STEP + "letter a s", 2, 32);
        fault("ear e 1", 2, 6);
        fault("ear e floors floors", 2, 13);
        fault("ear e floors 1 left", 2, 15);
        fault("ear e floors 1 book;", 2, 19);
        fault(LETTER + "ear e floors 0 book a 1", 2, 55);
        fault(LETTER + "ear e floors 0 book a", 2, 54);
    }

    private static void toldAlready() {
        fault(STEP + "step s", 3, 27);
        fault(LETTER + "letter a", 3, 40);
        fault("ear e floors 0;ear e", 3, 19);
        fault(LETTER + "ear e floors 0 book a a", 3, 55);
        LimpCode x = Due.taught(STEP + "letter s s;ear s floors 0 book s;");
        due.is("one name of three sorts", x.about(0) + x.about(1) + x.about(2), 3);
        LimpCode y = Due.taught(LETTER + "ear e floors 0 book a;ear f floors 0 book a;");
        due.is("a letter in two books", y.about(2), 2);
    }

    private static void numbers() {
        fault("step s takes 0", 4, 13);
        fault("step s takes 10", 4, 13);
        fault("step s takes 9999", 4, 13);
        fault("step s takes 9 loud 10", 4, 20);
        fault("ear e floors 10", 4, 13);
        LimpCode x = Due.taught("step s takes 9 loud 9;ear e floors 9;ear f floors 0;");
        due.is("the highest numbers", x.step(0), 9);
        due.is("nothing heard below 9 floors", x.heard(0, 0), 0);
        due.is("all heard below none", x.heard(1, 0), 9);
    }

    private static void unknown() {
        fault("letter a s", 5, 9);
        fault(STEP + "letter a s t", 5, 33);
        fault(STEP + "letter a a", 5, 31);
        fault(STEP + "ear e floors 0 book s", 5, 42);
        fault(STEP + "letter a s;ear e floors 0 book b", 5, 53);
        fault("ear e floors 0 book e", 5, 20);
    }

    private static void limits() {
        StringBuilder steps = new StringBuilder();
        for (int i = 0; i < 6; i++) {
            steps.append("step ").append((char) ('a' + i)).append(" takes 1 loud 1;");
        }
        due.is("6 steps", Due.taught(steps.toString()).about(0), 6);
        fault(steps + " step", 2, steps.length() + 1);
        fault(steps + "step a", 2, steps.length());
        StringBuilder letters = new StringBuilder(STEP);
        for (int i = 0; i < 10; i++) {
            letters.append("letter ").append((char) ('a' + i)).append(" s s s s s;");
        }
        due.is("10 letters", Due.taught(letters.toString()).about(1), 10);
        fault(letters + "letter", 2, letters.length());
        due.is("a book of 10", Due.taught(letters + "ear e floors 0 book a b c d e f g h i j;").about(2), 1);
        fault(letters + "ear e floors 0 book a b c d e f g h i j j", 3, letters.length() + 40);
        fault(letters + "ear e floors 0 book a b c d e f g h i j k", 5, letters.length() + 40);
        StringBuilder ears = new StringBuilder();
        for (int i = 0; i < 4; i++) {
            ears.append("ear ").append((char) ('a' + i)).append(" floors 1;");
        }
        due.is("4 ears", Due.taught(ears.toString()).about(2), 4);
        fault(ears + "ear", 2, ears.length());
        fault(STEP + "letter a s s s s s s", 2, 41);
        fault(STEP + "letter a s s s s s t", 2, 41);
        fault(STEP + "letter a s s s s s $", 1, 41);
    }
}
