/** Each sentence of part 1 of the terms, and of promises 1 to 5, that names a boundary case. */
public final class EdgeSchoolTest {
    private static final Due due = new Due();
    private static final int MIN = Integer.MIN_VALUE;
    private static final int MAX = Integer.MAX_VALUE;
    private static final String STEP = "step s takes 1 loud 1;";
    private static final String LETTER = STEP + "letter a s;";
    private static final String[] OWN_WORDS = {"step", "takes", "loud", "left", "right", "still", "letter", "ear", "floors", "book"};

    public static void main(String[] args) {
        length();
        lines();
        words();
        names();
        numbers();
        signs();
        longest();
        behindNumbers();
        ownWords();
        steps();
        letters();
        ears();
        books();
        numbered();
        placeOfFault();
        leastOfPlace();
        eachFault();
        newObject();
        feeds();
        feedBytes();
        feedIsRefused();
        ends();
        endIsRefused();
        schoolAnswers();
        schoolAgain();
        schoolOfFewerLetters();
        schoolEmpties();
        faultOfSchool();
        faultIsTold();
        due.finish();
    }

    private static void right(String text, int steps, int letters, int ears) {
        LimpCode x = new LimpCode();
        Due.put(x, text);
        due.is("school of <" + text + ">", x.school(), letters);
        due.is("fault of <" + text + ">", x.fault(0), 0);
        due.is("place in <" + text + ">", x.fault(1), -1);
        due.is("steps of <" + text + ">", x.about(0), steps);
        due.is("letters of <" + text + ">", x.about(1), letters);
        due.is("ears of <" + text + ">", x.about(2), ears);
    }

    private static void wrong(String text, int fault, int place) {
        LimpCode x = new LimpCode();
        Due.put(x, text);
        due.is("school of <" + text + ">", x.school(), -1);
        due.is("fault of <" + text + ">", x.fault(0), fault);
        due.is("place in <" + text + ">", x.fault(1), place);
        due.is("steps behind <" + text + ">", x.about(0), 0);
    }

    private static String manySteps(int n) {
        StringBuilder s = new StringBuilder();
        for (int i = 0; i < n; i++) {
            s.append("step ").append((char) ('a' + i)).append(" takes 1 loud ").append(i).append(";");
        }
        return s.toString();
    }

    private static String manyLetters(int n) {
        StringBuilder s = new StringBuilder(STEP);
        for (int i = 0; i < n; i++) {
            s.append("letter ").append((char) ('a' + i)).append(" s;");
        }
        return s.toString();
    }

    private static String manyEars(int n) {
        StringBuilder s = new StringBuilder();
        for (int i = 0; i < n; i++) {
            s.append("ear ").append((char) ('a' + i)).append(" floors ").append(i).append(";");
        }
        return s.toString();
    }

    // ---- terms, part 1

    private static void length() {
        due.says("A SCHOOL is a text of at most 1,600 bytes (empty at first)");
        right(STEP + "\n".repeat(1600 - STEP.length()), 1, 0, 0);
        right(" ".repeat(1600 - LETTER.length()) + LETTER, 1, 1, 0);
        wrong(" ".repeat(1599) + "s", 2, 1599);
        wrong(" ".repeat(1599) + "$", 1, 1599);
        wrong(" ".repeat(1600 - STEP.length() + 1) + STEP.substring(0, STEP.length() - 1), 2, 1600);
        LimpCode x = new LimpCode();
        due.is("steps at first", x.about(0), 0);
        due.is("letters at first", x.about(1), 0);
        due.is("ears at first", x.about(2), 0);
    }

    private static void lines() {
        due.says("school = {line}");
        right("", 0, 0, 0);
        right(" \n \n", 0, 0, 0);
        right("ear e floors 0;" + LETTER, 1, 1, 1);
        right(LETTER + "ear e floors 0;step t takes 1 loud 1;letter b t s;ear f floors 1 book b a;", 2, 2, 2);
        due.says("step NAME takes N loud N [left | right | still] ;");
        right("step l takes 1 loud 1 left;step r takes 1 loud 1 right;step w takes 1 loud 1 still;step e takes 1 loud 1;", 4, 0, 0);
        wrong("step l takes 1 loud 1 left left;", 2, 27);
        wrong("step l takes 1 loud 1 still right;", 2, 28);
        wrong("step l left takes 1 loud 1;", 2, 7);
        wrong("step l loud 1 takes 1;", 2, 7);
        wrong("step l takes 1;", 2, 14);
        due.says("letter NAME NAME {NAME} ;");
        wrong(STEP + "letter a;", 2, 30);
        wrong(STEP + "letter;", 2, 28);
        wrong(STEP + "letter a s left;", 2, 33);
        due.says("ear NAME floors N [book NAME {NAME}] ;");
        wrong(LETTER + "ear e;", 2, 38);
        wrong(LETTER + "ear e floors;", 2, 45);
        wrong(LETTER + "ear e floors 1 book;", 2, 52);
        wrong(LETTER + "ear e book a;", 2, 39);
        wrong(LETTER + "ear e floors 1 book a book a;", 2, 55);
    }

    private static void words() {
        due.says("words (a .. z, 8 at most)");
        right("step a takes 1 loud 1;step z takes 1 loud 1;step azazazaz takes 1 loud 1;", 3, 0, 0);
        wrong("step `", 1, 5);
        wrong("step {", 1, 5);
        wrong("step A", 1, 5);
        wrong("step Z", 1, 5);
        wrong("step _", 1, 5);
        wrong("step \u00e1", 1, 5);
        wrong("step \u00e1s", 1, 5);
        right("step abcdefgh takes 1 loud 1;letter stepstep abcdefgh;", 1, 1, 0);
        wrong("step abcdefghi takes 1 loud 1;", 1, 5);
        wrong("step abcdefghijklmnopqrstuvwxyz takes 1 loud 1;", 1, 5);
        right("step abcdefgh takes 1 loud 1;step abcdefgi takes 1 loud 1;step bbcdefgh takes 1 loud 1;step abcdefg takes 1 loud 1;", 4, 0, 0);
        wrong("step abcdefgh takes 1 loud 1;step abcdefgh", 3, 34);
    }

    private static void names() {
        due.says("a NAME is told already, is known, if it is the same word");
        String signs = "abcpqyz";
        java.util.List<String> names = new java.util.ArrayList<>();
        for (char c : signs.toCharArray()) {
            names.add("" + c);
            names.add("stepste" + c);
            for (char d : signs.toCharArray()) {
                names.add("" + c + d);
            }
        }
        for (String a : names) {
            LimpCode x = new LimpCode();
            for (String b : names) {
                Due.put(x, "step " + a + " takes 1 loud 1;letter " + a + " " + b + ";step " + b);
                x.school();
                due.is("fault of a letter of step " + b + " where " + a + " is told", x.fault(0), a.equals(b) ? 3 : 5);
            }
        }
    }

    private static void numbers() {
        due.says("N (1 to 4 digits)");
        right("step s takes 1 loud 0;", 1, 0, 0);
        right("step s takes 01 loud 00;", 1, 0, 0);
        right("step s takes 001 loud 000;", 1, 0, 0);
        right("step s takes 0001 loud 0000;ear e floors 0009;", 1, 0, 1);
        wrong("step s takes 00001 loud 0;", 1, 13);
        wrong("step s takes 1 loud 00000;", 1, 20);
        wrong("ear e floors 00009;", 1, 13);
        wrong("step s takes 4294967297 loud 0;", 1, 13);
        wrong("step s takes /", 1, 13);
        wrong("step s takes :", 1, 13);
        wrong("step s takes \u00b2", 1, 13);
        wrong("step s takes +1", 1, 13);
    }

    private static void signs() {
        due.says("the sign ;");
        wrong("step s takes 1 loud 1:", 1, 21);
        wrong("step s takes 1 loud 1<", 1, 21);
        wrong("step s takes 1 loud 1.", 1, 21);
        due.says("blanks (32, 10) part them or not");
        right("step s takes1 loud1;letter a s;ear e floors0book a;".replace("0book", "0 book"), 1, 1, 1);
        right("\n\nstep \n s\ntakes\n1\nloud\n1\nleft\n;\nletter\na\ns\n;\n", 1, 1, 0);
        right("step s takes 1 loud 1 ; letter a s s ; ear e floors 0 book a ; ", 1, 1, 1);
        for (int b : new int[] {0, 9, 11, 12, 13, 31, 33, 127, 128, 138, 160, 255}) {
            wrong("step" + (char) b + "s takes 1 loud 1;", 1, 4);
            wrong(STEP + (char) b, 1, 22);
        }
    }

    private static void longest() {
        due.says("each is as long as can be");
        wrong("steps takes 1 loud 1;", 2, 0);
        wrong("step stakes 1 loud 1;", 2, 12);
        wrong("step s takes 11 loud 1;", 4, 13);
        wrong("step s takes 1 loud 11;", 4, 20);
        wrong("step s takes 1 loud 1 leftleft;", 2, 22);
        wrong(STEP + "letter a ss;", 5, 31);
        wrong(LETTER + "ear e floors 1 booka;", 2, 48);
        right("step takess takes 1 loud 1;step lefts takes 1 loud 1;letter letters lefts takess;ear ears floors 1 book letters;", 2, 1, 1);
    }

    private static void behindNumbers() {
        due.says("no letter directly behind an N");
        wrong("step s takes 1loud 1;", 1, 13);
        wrong("step s takes 1 loud 1left;", 1, 20);
        wrong("step s takes 0loud 1;", 1, 13);
        wrong("ear e floors 1book a;", 1, 13);
        wrong("ear e floors 1a;", 1, 13);
        wrong("ear e floors 1z;", 1, 13);
        wrong("1a", 1, 0);
        wrong("step s takes 1`", 1, 14);
        wrong("step s takes 1{", 1, 14);
        wrong("step s takes 1", 2, 14);
        wrong("step s takes 1\nloud 1", 2, 21);
        right("step s takes 1 loud 1;", 1, 0, 0);
    }

    private static void ownWords() {
        due.says("Words that stand for themselves here are no NAMES");
        for (String word : OWN_WORDS) {
            wrong("step " + word + " takes 1 loud 1;", 2, 5);
            wrong(STEP + "letter " + word + " s;", 2, 29);
            wrong(STEP + "letter a " + word + ";", 2, 31);
            wrong(STEP + "letter a s " + word + ";", 2, 33);
            wrong("ear " + word + " floors 1;", 2, 4);
            wrong(LETTER + "ear e floors 0 book " + word + ";", 2, 53);
            wrong(LETTER + "ear e floors 0 book a " + word + ";", 2, 55);
            right("step x" + word + " takes 1 loud 1;", 1, 0, 0);
            right("step " + word + "x takes 1 loud 1;", 1, 0, 0);
            for (int i = 0; i < word.length(); i++) {
                String other = word.substring(0, i) + "x" + word.substring(i + 1);
                right("step " + other + " takes 1 loud 1;letter " + other + " " + other + ";ear " + other + " floors 1;", 1, 1, 1);
                String whole = LETTER + "step t takes 1 loud 1 left;step u takes 1 loud 1 right;step v takes 1 loud 1 still;ear e floors 1 book a;";
                wrong(whole.replaceFirst("\\b" + word + "\\b", other), 2, java.util.regex.Pattern.compile("\\b" + word + "\\b").split(whole)[0].length());
            }
        }
    }

    private static void steps() {
        due.says("At most 6 STEPS");
        right(manySteps(6), 6, 0, 0);
        wrong(manySteps(7), 2, manySteps(6).length());
        due.says("takes 1 .. 9");
        wrong("step s takes 0 loud 1;", 4, 13);
        wrong("step s takes 0000 loud 1;", 4, 13);
        right("step s takes 1 loud 1;step t takes 9 loud 1;", 2, 0, 0);
        wrong("step s takes 10 loud 1;", 4, 13);
        wrong("step s takes 9999 loud 1;", 4, 13);
        due.says("loud 0 .. 9");
        right("step s takes 1 loud 0;step t takes 1 loud 9;", 2, 0, 0);
        wrong("step s takes 1 loud 10;", 4, 20);
        wrong("step s takes 1 loud 0010;", 4, 20);
        wrong("step s takes 1 loud 9999;", 4, 20);
    }

    private static void letters() {
        due.says("10 LETTERS");
        right(manyLetters(10), 1, 10, 0);
        wrong(manyLetters(11), 2, manyLetters(10).length());
        due.says("1 to 5 STEPS told ahead, one perhaps again");
        right(STEP + "letter a s;letter b s s s s s;", 1, 2, 0);
        right(manySteps(6) + "letter a a b c d e;letter b f f e e f;", 6, 2, 0);
        wrong(STEP + "letter a s s s s s s;", 2, 41);
        wrong("letter a s;" + STEP, 5, 9);
        wrong(STEP + "letter a s t;step t takes 1 loud 1;", 5, 33);
        wrong(LETTER + "letter b a;", 5, 42);
    }

    private static void ears() {
        due.says("4 EARS");
        right(manyEars(4), 0, 0, 4);
        wrong(manyEars(5), 2, manyEars(4).length());
        due.says("floors 0 .. 9");
        right("ear e floors 0;ear f floors 9;", 0, 0, 2);
        wrong("ear e floors 10;", 4, 13);
        wrong("ear e floors 9999;", 4, 13);
    }

    private static void books() {
        due.says("book: LETTERS told ahead that it knows, each once");
        right(LETTER + "letter b s;ear e floors 0 book b a;ear f floors 0 book b;", 1, 2, 2);
        right(manyLetters(10) + "ear e floors 0 book j i h g f e d c b a;", 1, 10, 1);
        wrong(LETTER + "ear e floors 0 book b;letter b s;", 5, 53);
        wrong(LETTER + "ear e floors 0 book a a;", 3, 55);
        wrong(LETTER + "ear e floors 0 book s;", 5, 53);
        due.says("without book all LETTERS, also those told later");
        LimpCode x = Due.taught(LETTER + "ear e floors 0;ear f floors 0 book a;letter b s;letter c s s;");
        x.step(0);
        x.step(0);
        due.is("reads without book", x.reads(0, 0), 5);
        due.is("reads by a book", x.reads(1, 0), 1);
        LimpCode y = Due.taught("ear e floors 0;" + LETTER);
        y.step(0);
        due.is("reads of letters all told later", y.reads(0, 0), 1);
    }

    private static void numbered() {
        due.says("numbered as told, each sort by itself");
        LimpCode x = Due.taught("ear z floors 3;step z takes 2 loud 4;letter z z;ear a floors 1;step a takes 3 loud 7;letter a a z;");
        due.is("step 0", x.step(0), 2);
        due.is("ear 0 hears step 0", x.heard(0, 0), 1);
        due.is("step 1", x.step(1), 5);
        due.is("ear 1 hears step 1", x.heard(1, 2), 6);
        due.is("letter 0", x.tell(0, 0), 2);
        due.is("letter 1", x.tell(1, 1), 5);
    }

    private static void placeOfFault() {
        due.says("FAULTS, the first by its place");
        wrong("letter a s;$", 5, 9);
        wrong("step s takes 0 loud 10 $;", 4, 13);
        wrong("step s takes 1 loud 10 $;", 4, 20);
        wrong(STEP + "step s takes 0;", 3, 27);
        wrong("$ step step", 1, 0);
        wrong(manySteps(6) + "step a takes 0;", 2, manySteps(6).length());
        wrong(manyLetters(10) + "letter a zz;", 2, manyLetters(10).length());
        wrong(manyEars(4) + "ear a floors 99;", 2, manyEars(4).length());
        due.says("bytes from 0; the end: the text's length");
        wrong("s", 2, 0);
        wrong(" \ns", 2, 2);
        wrong("step", 2, 4);
        wrong("step \n ", 2, 7);
        wrong("step s", 2, 6);
        wrong("step s takes", 2, 12);
        wrong("step s takes 1 loud", 2, 19);
        wrong("step s takes 1 loud 1 left", 2, 26);
        wrong("letter", 2, 6);
        wrong(LETTER + "letter b", 2, 41);
        wrong(LETTER + "letter b s s s s s", 2, 51);
        wrong("ear", 2, 3);
        wrong("ear e", 2, 5);
        wrong("ear e floors", 2, 12);
        wrong("ear e floors 1", 2, 14);
        wrong("ear e floors 1 book", 2, 19);
        wrong(LETTER + "ear e floors 0 book a ", 2, 55);
    }

    private static void leastOfPlace() {
        due.says("at one place the least");
        wrong("abcdefghi", 1, 0);
        wrong("step s takes 99999", 1, 13);
        wrong("step s takes 0x", 1, 13);
        wrong("step 0", 2, 5);
        wrong(STEP + "letter a 0", 2, 31);
        wrong(STEP + "letter a s s s s s t;", 2, 41);
        wrong(STEP + "letter a s s s s s abcdefghi;", 1, 41);
        wrong(STEP + "letter a abcdefghi;", 1, 31);
    }

    private static void eachFault() {
        due.says("1 no TOKEN");
        wrong("\u0000", 1, 0);
        wrong("\u00ff", 1, 0);
        due.says("2 one that can't stand there");
        wrong("1", 2, 0);
        wrong(";", 2, 0);
        wrong("left", 2, 0);
        wrong(STEP + ";", 2, 22);
        wrong(STEP + "takes", 2, 22);
        wrong("step s s", 2, 7);
        wrong("ear e floors 1 2", 2, 15);
        due.says("one of a sort too many: at the line's first word");
        wrong(manySteps(6) + " \nstep g takes 1 loud 1;", 2, manySteps(6).length() + 2);
        wrong(manyLetters(10) + " letter z s;", 2, manyLetters(10).length() + 1);
        wrong(manyEars(4) + "\near z floors 1;", 2, manyEars(4).length() + 1);
        due.says("a 6th STEP of a LETTER: there");
        wrong(STEP + "letter a s s s s s  s s;", 2, 42);
        due.says("3 a NAME told already (of its sort), a LETTER told already in that book");
        wrong(STEP + "step s takes 1 loud 1;", 3, 27);
        wrong(LETTER + "letter a s;", 3, 40);
        wrong("ear e floors 1;ear e floors 1;", 3, 19);
        right("step a takes 1 loud 1;letter a a;ear a floors 1 book a;ear b floors 1 book a;", 1, 1, 2);
        wrong(LETTER + "letter b s;ear e floors 0 book a b a;", 3, 68);
        due.says("4 a number that can't be");
        wrong("step s takes 0 loud 1;", 4, 13);
        wrong("step s takes 1 loud 10;", 4, 20);
        wrong("ear e floors 10;", 4, 13);
        due.says("5 a NAME that no STEP, no LETTER has (as must stand there)");
        wrong(LETTER + "letter b a;", 5, 42);
        wrong(LETTER + "ear e floors 0 book s;", 5, 53);
        wrong(LETTER + "ear e floors 0 book e;", 5, 53);
        wrong(LETTER + "letter b b;", 5, 42);
    }

    // ---- promises 1 to 5

    private static void newObject() {
        due.says("LimpCode(): An empty SCHOOL");
        LimpCode x = new LimpCode();
        for (int what = 0; what <= 11; what++) {
            due.is("about(" + what + ")", x.about(what), 0);
        }
        due.is("step(0)", x.step(0), -1);
        due.is("tell(0, 0)", x.tell(0, 0), -1);
        due.is("stuck(0)", x.stuck(0), -2);
        due.is("heard(0, 0)", x.heard(0, 0), -1);
        due.is("reads(0, 0)", x.reads(0, 0), -1);
        due.is("alike(0, 0, 0, 0)", x.alike(0, 0, 0, 0), -1);
        due.is("doubled(0, 1)", x.doubled(0, 1), -1);
        due.is("cobble(0, 0)", x.cobble(0, 0), -1);
        due.is("sound(0, 0, 0, 0)", x.sound(0, 0, 0, 0), -1);
        due.is("untell(0)", x.untell(0), false);
        due.is("back(0)", x.back(0), -1);
        due.is("meant(0, 0)", x.meant(0, 0), 1);
        due.is("meant(1, 0)", x.meant(1, 0), 0);
        due.is("can(0, 0, 0)", x.can(0, 0, 0), 0);
        due.is("timed(0, 0)", x.timed(0, 0), 1);
        due.is("dealt()", x.dealt(), 0);
        due.is("lies(0)", x.lies(0), -1);
        due.is("fault(0)", x.fault(0), 0);
        due.is("fault(1)", x.fault(1), -1);
    }

    private static void feeds() {
        due.says("Twenty bytes come behind those on the TAPE: how many there are");
        LimpCode x = new LimpCode();
        due.is("feed", x.feed(0, 0, 0, 0, 0), 20);
        due.is("feed again", x.feed(MIN, MAX, -1, 1, 0), 40);
        x.end(7);
        due.is("feed behind 7", x.feed(0, 0, 0, 0, 0), 27);
        x.end(0);
        due.is("feed behind none", x.feed(0, 0, 0, 0, 0), 20);
        // "step" fed from place 1 on, behind a blank that is left of the first twenty.
        LimpCode y = new LimpCode();
        y.feed(0x20242424, 0, 0, 0, 0);
        y.end(1);
        y.feed(0x73746570, 0x20732074, 0x616b6573, 0x2031206c, 0x6f756420);
        due.is("bytes", y.about(10), 21);
        y.feed(0x313b2424, 0, 0, 0, 0);
        due.is("end", y.end(23), 23);
        due.is("school", y.school(), 0);
        due.is("steps", y.about(0), 1);
    }

    private static void feedBytes() {
        due.says("of each number the highest first");
        for (int at = 0; at < 20; at++) {
            int[] fives = new int[5];
            java.util.Arrays.fill(fives, 0x20202020);
            fives[at / 4] = 0x20202020 & ~(0xff << 24 - at % 4 * 8) | 0x80 + at << 24 - at % 4 * 8;
            LimpCode x = new LimpCode();
            x.feed(fives[0], fives[1], fives[2], fives[3], fives[4]);
            due.is("school", x.school(), -1);
            due.is("the fault at " + at, x.fault(0), 1);
            due.is("the place of byte " + at, x.fault(1), at);
        }
    }

    private static void feedIsRefused() {
        due.says("NONE, and nothing comes, if there would be more than 1,600");
        LimpCode x = new LimpCode();
        for (int i = 1; i <= 80; i++) {
            due.is("feed " + i, x.feed(0x20202020, 0x20202020, 0x20202020, 0x20202020, 0x20202020), 20 * i);
        }
        due.is("feed beyond 1,600", x.feed(-1, -1, -1, -1, -1), -1);
        due.is("bytes", x.about(10), 1600);
        for (int n : new int[] {1599, 1590, 1581}) {
            x.end(n);
            due.is("feed behind " + n, x.feed(-1, -1, -1, -1, -1), -1);
            due.is("bytes behind " + n, x.about(10), n);
        }
        due.is("school of blanks alone", x.school(), 0);
        for (int i = 1; i <= 80; i++) {
            x.feed(0x20202020, 0x20202020, 0x20202020, 0x20202020, 0x20202020);
        }
        x.end(1580);
        due.is("feed behind 1580", x.feed(0x20202020, 0x20202020, 0x20202020, 0x20202020, 0x20202024), 1600);
        due.is("school of 1,600", x.school(), -1);
        due.is("its last byte", x.fault(1), 1599);
    }

    private static void ends() {
        due.says("The TAPE has its first n bytes: n");
        LimpCode x = new LimpCode();
        due.is("end(0) of an empty one", x.end(0), 0);
        x.feed(0x20202020, 0x20242020, 0x20202020, 0x20202020, 0x20202020);
        due.is("end(20)", x.end(20), 20);
        due.is("bytes", x.about(10), 20);
        due.is("end(6)", x.end(6), 6);
        due.is("bytes then", x.about(10), 6);
        due.is("end(5)", x.end(5), 5);
        due.is("school of what is left", x.school(), 0);
        x.feed(0x20202020, 0x20242020, 0x20202020, 0x20202020, 0x20202020);
        x.end(6);
        due.is("school of the first six", x.school(), -1);
        due.is("its place", x.fault(1), 5);
        x.feed(-1, -1, -1, -1, -1);
        due.is("end(0)", x.end(0), 0);
        due.is("bytes at last", x.about(10), 0);
        due.is("school of nothing", x.school(), 0);
        due.says("The TAPE has its first n bytes: what was behind them is gone");
        cut("step s takes 1loud 1;", 14, 2, 14);
        cut("step s takes 10 loud 1;", 14, 2, 14);
        cut("stepx", 4, 2, 4);
        cut("step s;", 6, 2, 6);
        cut("step s takes 1 loud 1;$", 22, 0, -1);
        cut("step s takes 1 loud 1;letter a s;", 22, 0, -1);
        cut("ear e floors 1;;", 15, 0, -1);
    }

    private static void cut(String text, int n, int fault, int place) {
        LimpCode x = new LimpCode();
        Due.put(x, text);
        x.end(n);
        x.school();
        due.is("fault of the first " + n + " of <" + text + ">", x.fault(0), fault);
        due.is("its place", x.fault(1), place);
    }

    private static void endIsRefused() {
        due.says("NONE, doing nothing, if it has not so many, or n is below 0");
        LimpCode x = new LimpCode();
        due.is("end(1) of an empty one", x.end(1), -1);
        x.feed(0x20202020, 0x20202020, 0x20202020, 0x20202020, 0x20202020);
        x.end(19);
        for (int n : new int[] {20, 21, 1600, 1601, MAX, -1, -19, -20, MIN}) {
            due.is("end(" + n + ")", x.end(n), -1);
            due.is("bytes behind end(" + n + ")", x.about(10), 19);
        }
        due.is("school of the blanks", x.school(), 0);
    }

    private static void schoolAnswers() {
        due.says("The TAPE is the SCHOOL: how many LETTERS");
        LimpCode x = new LimpCode();
        due.is("school of nothing", x.school(), 0);
        Due.put(x, STEP);
        due.is("school of a step", x.school(), 0);
        Due.put(x, manyLetters(10));
        due.is("school of ten letters", x.school(), 10);
        due.is("its letters", x.about(1), 10);
        Due.put(x, manyEars(4));
        due.is("school of ears", x.school(), 0);
        due.is("no letters then", x.about(1), 0);
        due.is("no steps then", x.about(0), 0);
        due.is("four ears then", x.about(2), 4);
    }

    private static void schoolAgain() {
        due.says("The TAPE is the SCHOOL: nothing of an earlier one");
        LimpCode x = new LimpCode();
        for (int i = 0; i < 6; i++) {
            Due.put(x, i % 3 == 2 ? LETTER + "letter b s;ear e floors 0 book b;ear f floors 1;" : LETTER + "ear e floors 3 book a;");
            due.is("school " + i, x.school(), i % 3 == 2 ? 2 : 1);
            due.is("its fault", x.fault(0), 0);
            due.is("its ears", x.about(2), i % 3 == 2 ? 2 : 1);
            x.step(0);
            due.is("it hears", x.heard(0, 0), i % 3 == 2 ? 1 : 0);
            due.is("it reads", x.reads(0, 0), 1);
            due.is("it knows", x.lies(0), i % 3 == 2 ? 1 : 0);
        }
        for (int i = 0; i < 3; i++) {
            Due.put(x, STEP + "letter b s b;");
            due.is("a step's name that a letter has", x.school(), -1);
            due.is("the fault", x.fault(0), 5);
            Due.put(x, STEP + "ear e floors 0 book a;");
            due.is("a letter of an earlier school", x.school(), -1);
            due.is("its fault", x.fault(0), 5);
        }
    }

    private static void schoolOfFewerLetters() {
        due.says("The TAPE is the SCHOOL: no LETTER of an earlier one is read");
        LimpCode x = new LimpCode();
        String steps = "step s takes 1 loud 1;step t takes 1 loud 2;";
        String ears = "ear e floors 8;ear f floors 9;ear g floors 0;";
        for (int i = 0; i < 2; i++) {
            Due.put(x, steps + "letter a s;letter b t;letter c t;" + ears);
            x.school();
            x.step(1);
            due.is("stuck by three letters", x.stuck(2), -1);
        }
        for (int i = 0; i < 2; i++) {
            Due.put(x, steps + "letter a s;" + ears);
            x.school();
            x.step(1);
            due.is("stuck", x.stuck(2), 0);
            due.is("reads", x.reads(2, 0), 0);
            due.is("meant", x.meant(1, 100), 1);
            due.is("can", x.can(1, 0, 100), 1);
            due.is("timed", x.timed(1, 1), 1);
            x.tell(0, 0);
            x.tell(1, 0);
            due.is("secret", x.secret(0, 1, 2), 1);
            due.lie("secret", x, 1);
            due.is("dealt", x.dealt(), 1);
            due.lie("dealt", x, 0);
            due.is("tell", x.tell(0, 1), -1);
            due.is("alike", x.alike(2, 0, 1, 0), -1);
        }
    }

    private static LimpCode busy() {
        LimpCode x = Due.taught(LETTER + "letter b s;step l takes 1 loud 2 left;ear e floors 0;ear f floors 1;");
        x.step(0);
        x.cobble(0, 3);
        x.cobble(1, 1);
        x.tell(0, 0);
        x.tell(1, 0);
        x.tell(1, 1);
        x.later(7);
        x.sound(0, 0, 1, 4);
        for (int box = 0; box < 3; box++) {
            x.image(box);
        }
        x.dealt();
        return x;
    }

    private static void schoolEmpties() {
        LimpCode x = busy();
        Due.put(x, LETTER + "step l takes 1 loud 1 left;ear e floors 0;");
        x.school();
        due.says("school: The TAPE (empty then)");
        due.is("bytes", x.about(10), 0);
        due.says("school: the WALK is empty");
        due.is("its time", x.about(3), 0);
        due.is("its steps", x.about(4), 0);
        due.is("whose turn", x.about(5), 0);
        due.is("heard(0, 0)", x.heard(0, 0), -1);
        due.says("school: nothing is COBBLED");
        due.is("step 0", x.cobble(0, 0), 1);
        due.is("step 1", x.cobble(1, 0), 1);
        due.says("school: both TEXTS are none");
        due.is("letters of text 0", x.about(6), 0);
        due.is("letters of text 1", x.about(7), 0);
        due.is("say(0)", x.say(0), 0);
        due.is("say(1)", x.say(1), 0);
        due.is("tell(0, 0)", x.tell(0, 0), 1);
        due.is("tell(1, 0)", x.tell(1, 0), 1);
        due.says("school: SOUNDS are none");
        due.is("sounds", x.about(8), 0);
        due.is("untell(0)", x.untell(0), false);
        due.is("meant", x.meant(1, 100), 1);
        due.is("the next is the first", x.sound(0, 0, 0, 9), 0);
        x = busy();
        due.is("two lie there", x.about(11), 2);
        Due.put(x, LETTER);
        x.school();
        due.says("school: nothing lies there");
        due.is("how many", x.about(11), 0);
        due.is("lies(0)", x.lies(0), -1);
        due.says("school: BOXES are empty then");
        for (int box = 0; box < 3; box++) {
            due.is("back(" + box + ")", x.back(box), -1);
        }
        due.says("school: the TIME OF DAY stays");
        due.is("about(9)", x.about(9), 7);
        due.is("later(0)", x.later(0), 7);
    }

    private static void faultOfSchool() {
        due.says("school: NONE: a FAULT (all stays)");
        for (String text : new String[] {"$", "step", "step t takes 1 loud 9;letter q t;ear g floors 3;ear g", manySteps(7), manyLetters(11), manyEars(5)}) {
            Twins.same(due, "school of <" + text + ">", EdgeSchoolTest::busy, x -> {
                Due.put(x, text);
                due.is("school of <" + text + ">", x.school(), -1);
            });
        }
    }

    private static void faultIsTold() {
        due.says("Of the latest school() what 0: its FAULT (0), 1: its place (NONE)");
        LimpCode x = new LimpCode();
        due.is("fault(0) of none yet", x.fault(0), 0);
        due.is("fault(1) of none yet", x.fault(1), -1);
        Due.put(x, "step s takes 0");
        x.school();
        due.is("fault(0)", x.fault(0), 4);
        due.is("fault(1)", x.fault(1), 13);
        due.is("fault(0) again", x.fault(0), 4);
        Due.put(x, "  $");
        due.is("fault(0) of the latest still", x.fault(0), 4);
        x.school();
        due.is("fault(0) of the next", x.fault(0), 1);
        due.is("fault(1) of the next", x.fault(1), 2);
        x.school();
        due.is("fault(0) of one that is right", x.fault(0), 0);
        due.is("fault(1) of one that is right", x.fault(1), -1);
        due.says("fault: NONE for another what");
        Due.put(x, "$");
        x.school();
        for (int what : new int[] {-1, 2, 3, MIN, MAX}) {
            due.is("fault(" + what + ")", x.fault(what), -1);
        }
    }
}
