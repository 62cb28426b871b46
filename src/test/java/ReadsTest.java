/** Promises 10 to 12 and 17: reads, stuck, alike, lies. */
public final class ReadsTest {
    private static final Due due = new Due();

    public static void main(String[] args) {
        reads();
        missed();
        manyReads();
        feet();
        stuck();
        stuckNearTheEnd();
        alike();
        due.finish();
    }

    private static void reads() {
        LimpCode x = Due.taught("step s takes 1 loud 3;step p takes 1 loud 0;letter b s p;letter a s;letter c p;ear e floors 1;ear f floors 3;ear g floors 1 book c a;");
        due.is("reads of an empty walk", x.reads(0, 0), 1);
        due.lie("reads of an empty walk", x);
        x.step(0);
        x.step(1);
        due.is("reads", x.reads(0, 0), 2);
        due.lie("reads", x, 0);
        due.is("reads by a book", x.reads(2, 0), 1);
        due.lie("reads by a book", x, 1, 2);
        due.is("reads of what sounds like nothing", x.reads(1, 0), 5);
        due.lie("reads of what sounds like nothing", x, 0);
        due.is("reads(3, 0)", x.reads(3, 0), -1);
        due.lie("reads(3, 0)", x);
        x.reads(0, 0);
        due.is("reads(-1, 0)", x.reads(-1, 0), -1);
        due.lie("reads(-1, 0)", x);
        x.reads(0, 0);
        due.is("reads(0, 4)", x.reads(0, 4), -1);
        due.lie("reads(0, 4)", x);
        x.reads(0, 0);
        due.is("reads(0, -1)", x.reads(0, -1), -1);
        due.lie("reads(0, -1)", x);
        x.reads(0, 0);
        x.cobble(0, -3);
        due.is("reads of a quiet step", x.reads(0, 0), 5);
    }

    private static void missed() {
        LimpCode x = Due.taught("step s takes 1 loud 3;step p takes 1 loud 0;letter a s;ear e floors 0;");
        for (int i = 0; i < 4; i++) {
            x.step(1);
        }
        for (int m = 0; m <= 3; m++) {
            due.is("4 missed of " + m, x.reads(0, m), 0);
            due.lie("4 missed of " + m, x);
        }
        x.stop();
        x.step(0);
        for (int i = 0; i < 3; i++) {
            x.step(1);
        }
        due.is("3 missed of 2", x.reads(0, 2), 0);
        due.is("3 missed of 3", x.reads(0, 3), 1);
        due.lie("3 missed of 3", x, 0, 0, 0, 0);
        // What is heard in earnest can't be unheard in the text, nor be louder there.
        LimpCode y = Due.taught("step s takes 1 loud 3;step p takes 1 loud 0;step t takes 2 loud 3;step u takes 1 loud 4;letter a p;letter b t;letter c u;ear e floors 0;");
        y.step(0);
        y.step(0);
        due.is("heard, but not in a text", y.reads(0, 3), 0);
        y.stop();
        y.step(1);
        y.step(1);
        due.is("at most one missed", y.reads(0, 1), 4);
        due.lie("at most one missed", y, 0, 0);
        due.is("at most two missed", y.reads(0, 2), 5);
    }

    private static void manyReads() {
        LimpCode x = Due.taught("step s takes 1 loud 3;letter a s;letter b s;letter c s s;ear e floors 5;");
        for (int i = 0; i < 40; i++) {
            x.step(0);
        }
        // r(n) = 2 r(n - 1) + r(n - 2)
        long last = 1;
        long sum = 2;
        for (int i = 2; i <= 40; i++) {
            long next = 2 * sum + last;
            last = sum;
            sum = next;
        }
        due.is("many reads", x.reads(0, 0), Math.min(sum, 1000000000000000L));
        LimpCode y = Due.taught("step s takes 1 loud 3;letter a s;letter b s;ear e floors 5;");
        for (int i = 0; i < 49; i++) {
            y.step(0);
        }
        due.is("2 to the 49th", y.reads(0, 0), 1L << 49);
        y.step(0);
        due.is("more than are counted", y.reads(0, 3), 1000000000000000L);
        for (int i = 50; i < 60; i++) {
            y.step(0);
        }
        due.is("many more than are counted", y.reads(0, 0), 1000000000000000L);
        due.is("60 letters lie there", y.about(11), 60);
    }

    private static void feet() {
        LimpCode x = Due.taught("step s takes 1 loud 1;step l takes 1 loud 1 left;step r takes 1 loud 1 right;letter a l;letter b r;letter c s;ear e floors 0;");
        x.step(0);
        x.step(0);
        due.is("reads by feet", x.reads(0, 0), 4);
        due.lie("reads by feet", x, 0, 1);
    }

    private static void stuck() {
        LimpCode x = Due.taught("step s takes 2 loud 3;step t takes 1 loud 5;step p takes 1 loud 0;letter a s t t;letter b s;ear e floors 0;ear f floors 0 book b;ear g floors 4;");
        due.is("stuck of an empty walk", x.stuck(0), -1);
        due.is("stuck(3)", x.stuck(3), -2);
        due.is("stuck(-1)", x.stuck(-1), -2);
        x.step(1);
        due.is("stuck at first", x.stuck(0), 0);
        x.stop();
        x.step(0);
        x.step(1);
        // Not a whole letter is heard, but the longer text goes on so.
        due.is("reads none", x.reads(0, 0), 0);
        due.is("but is not stuck", x.stuck(0), -1);
        due.is("stuck by its book", x.stuck(1), 2);
        x.step(0);
        due.is("stuck at the next", x.stuck(0), 3);
        due.is("below 4 floors", x.stuck(2), 3);
        x.stop();
        x.step(0);
        x.step(0);
        x.step(2);
        due.is("stuck behind two letters", x.stuck(1), 4);
        due.is("heard 0 where none is", x.stuck(0), 4);
        LimpCode y = Due.taught("step s takes 1 loud 1;ear e floors 9;");
        y.step(0);
        due.is("stuck without letters", y.stuck(0), 0);
        LimpCode z = Due.taught("step s takes 1 loud 1;step l takes 1 loud 1 left;letter a s l;letter b s l l;letter c s s;ear e floors 0 book a b;ear f floors 0;");
        z.step(0);
        due.is("letters that can't be walked tell nothing", z.stuck(0), 0);
        due.is("another one does", z.stuck(1), -1);
    }

    private static void stuckNearTheEnd() {
        LimpCode x = Due.taught("step s takes 1 loud 1;letter a s s s s;letter b s s s;ear e floors 0 book a;ear f floors 0;");
        for (int i = 0; i < 60; i++) {
            x.step(0);
        }
        due.is("15 times 4", x.stuck(0), -1);
        LimpCode y = Due.taught("step s takes 1 loud 1;step n takes 7 loud 1;letter a s s s s s;letter b n;ear e floors 9 book b;");
        for (int i = 0; i < 58; i++) {
            y.step(0);
        }
        // 8 times 7 is 56: a ninth would take the walk beyond 60.
        due.is("no text takes more than 60", y.stuck(0), 56);
        y.stop();
        for (int i = 0; i < 56; i++) {
            y.step(0);
        }
        due.is("56 can be", y.stuck(0), -1);
        y.stop();
        y.step(0);
        due.is("one moment of seven", y.stuck(0), -1);
    }

    private static void alike() {
        LimpCode x = Due.taught("step s takes 2 loud 3;step q takes 2 loud 2;step p takes 1 loud 0;step l takes 2 loud 3 left;"
            + "letter a s;letter b q;letter c q p;letter d p p;letter e l;ear w floors 0;ear y floors 2 book a;ear z floors 3;");
        due.is("a and b below 0", x.alike(0, 0, 1, 0), 0);
        due.is("a and b below 2", x.alike(1, 0, 1, 0), 0);
        due.is("b and d below 2", x.alike(1, 1, 3, 0), 1);
        due.is("a and b below 3", x.alike(2, 0, 1, 1), 1);
        due.is("b and c take other times", x.alike(2, 1, 2, 0), 0);
        due.is("a and e by the left foot", x.alike(0, 0, 4, 0), 1);
        due.is("a and e by the right foot", x.alike(0, 0, 4, 1), 0);
        due.is("e and a by the right foot", x.alike(0, 4, 0, 1), 0);
        due.is("e and itself", x.alike(0, 4, 4, 0), 1);
        due.is("e and itself by the right foot", x.alike(0, 4, 4, 1), 0);
        x.cobble(1, 1);
        due.is("cobbled", x.alike(0, 0, 1, 0), 1);
        due.is("alike(3, ..)", x.alike(3, 0, 0, 0), -1);
        due.is("alike(-1, ..)", x.alike(-1, 0, 0, 0), -1);
        due.is("alike(0, 5, ..)", x.alike(0, 5, 0, 0), -1);
        due.is("alike(0, 0, -1, 0)", x.alike(0, 0, -1, 0), -1);
        due.is("alike(0, 0, 0, 2)", x.alike(0, 0, 0, 2), -1);
        due.is("alike(0, 0, 0, -1)", x.alike(0, 0, 0, -1), -1);
    }
}
