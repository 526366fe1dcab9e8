/** Promises 1 to 9: a new object, and the calls that change the yard. */
public final class ChangesTest {
    private static final int LEAST = Integer.MIN_VALUE;
    private static final int MOST = Integer.MAX_VALUE;
    /** Child 0 owns the squares 2, 5, 8 and 11; child 1 owns none. */
    private static final String LINES = "n9;n9;c0@2;c0@5;c0@8;c0@11";
    /** The same, with 4 treads of child 1: a hop more makes 8, two more 12. */
    private static final String TROD = LINES + "|h1:3333";

    public static void main(String[] args) {
        newObject();
        child();
        chalk();
        chalkRefused();
        hop();
        hopOnLines();
        hopRefused();
        warrant();
        warrantRefused();
        strike();
        strikeRefused();
        rain();
        rainRefused();
        term();
        give();
        giveRefused();
        Check.end("ChangesTest");
    }

    private static void newObject() {
        ChalkWarrants x = new ChalkWarrants();
        for (int what = 0; what < 12; what++) {
            Check.same("account " + what, 0, x.account(what));
        }
        Check.same("the line at first", "", Check.shownLine(x));
        Check.same("the yard", ". . . . . . . . . . . .", Check.lineOf(x));
        Check.same("the warrants", "", Check.warrantsOf(x));
        Check.same("the reason", "none", Check.reasons(x));
        Check.same("the gap", 12, x.gap());
        Check.same("the fault", -1, x.faultPosition());
        Check.same("even", true, x.isEven());
        Check.same("the share", 0.0f, x.ownedShare());
        Check.thrown("", IllegalStateException.class, y -> y.undo());
        Check.thrown("", IllegalStateException.class, y -> y.restore());
        Check.thrown("", IndexOutOfBoundsException.class, y -> y.squares(0));
    }

    private static void child() {
        ChalkWarrants x = new ChalkWarrants();
        int[] pebbles = {0, 99, 1, 98, 50};
        for (int number = 0; number < 5; number++) {
            Check.same("child", number, x.child(pebbles[number]));
        }
        for (int number = 0; number < 5; number++) {
            Check.same("its pebbles", pebbles[number], x.childOf(number, 0));
            for (int what = 1; what < 7; what++) {
                Check.same("its number " + what, 0, x.childOf(number, what));
            }
        }
        Check.same("the children", 5, x.account(0));
        Check.same("their pebbles", 248, x.account(1));
        Check.same("the chest", 0, x.account(2));
        for (int wrong : new int[] {-1, 100, LEAST, MOST}) {
            Check.refused("", 1, 0, y -> y.child(wrong));
            Check.refused("n1;n2;n3;n4;n5", 1, 0, y -> y.child(wrong));
        }
        Check.refused("n1;n2;n3;n4;n5", 2, 5, y -> y.child(0));
        Check.refused("n1;n2;n3;n4;n5", 2, 5, y -> y.child(99));
        Check.answers("n1;n2;n3;n4", 4, y -> y.child(0));
    }

    private static void chalk() {
        ChalkWarrants x = Check.yard("n9;n4");
        Check.same("a free square", 5, x.chalk(0, 0));
        Check.same("anew", 7, x.chalk(0, 0));
        Check.same("anew again", 9, x.chalk(0, 0));
        Check.same("the last square", 5, x.chalk(1, 11));
        Check.same("the yard", "0/9 . . . . . . . . . . 1/5", Check.lineOf(x));
        Check.same("its pebbles", 6, x.childOf(0, 0));
        Check.same("the other's pebbles", 3, x.childOf(1, 0));
        Check.same("the chest", 4, x.account(2));
        Check.answers("n9;c0@3;c0@3;c0@3;r1", 9, y -> y.chalk(0, 3));
        Check.answers("n9;c0@3;r4", 3, y -> y.chalk(0, 3));
        Check.answers("n9;c0@3;r5", 5, y -> y.chalk(0, 3));
        Check.answers("n9;n9;c0@3;r5", 5, y -> y.chalk(1, 3));
        Check.answers("n1", 0, y -> y.chalk(0, 3) - 5 + y.childOf(0, 0));
        Check.answers(TROD + "|w1", 5, y -> y.chalk(1, 0));
    }

    private static void chalkRefused() {
        for (int wrong : new int[] {-1, 2, 5, LEAST, MOST}) {
            Check.refused("n9;n9", 3, 2, y -> y.chalk(wrong, 0));
            Check.refused("n9;n9", 3, 2, y -> y.chalk(wrong, 12));
        }
        Check.refused("", 3, 0, y -> y.chalk(0, 0));
        for (int wrong : new int[] {-1, 12, LEAST, MOST}) {
            Check.refused("n9", 1, 0, y -> y.chalk(0, wrong));
            Check.refused("n0", 1, 0, y -> y.chalk(0, wrong));
        }
        Check.refused("n9;n9;c1@4", 4, 1, y -> y.chalk(0, 4));
        Check.refused("n9;n9;c0@4;c0@4;c0@4", 4, 0, y -> y.chalk(1, 4));
        Check.refused("n9;n0;c0@4", 4, 0, y -> y.chalk(1, 4));
        Check.refused("n9;c0@7;c0@7;c0@7", 6, 7, y -> y.chalk(0, 7));
        Check.refused("n3;c0@0;c0@0;c0@0", 6, 0, y -> y.chalk(0, 0));
        Check.refused("n0", 5, 1, y -> y.chalk(0, 11));
        Check.refused("n1;c0@11", 5, 1, y -> y.chalk(0, 11));
    }

    private static void hop() {
        int[] right = {3333, 33312, 33323, 33313, 111111123, 222222, 1221213, 33321, 33322, 33133};
        for (int steps : right) {
            Check.answers("n9", 0, y -> y.hop(0, steps));
        }
        ChalkWarrants x = Check.yard(LINES);
        Check.same("on its own lines", 0, x.hop(0, 3333));
        Check.same("its hops", 1, x.childOf(0, 5));
        Check.same("on the other's lines", 4, x.hop(1, 3333));
        Check.same("its treads", 4, x.childOf(1, 1));
        Check.same("its hops", 1, x.childOf(1, 5));
        Check.same("the owner's trodden squares", 4, x.childOf(0, 6));
        Check.same("the owner's treads", 0, x.childOf(0, 1));
        Check.same("the hopper's trodden squares", 0, x.childOf(1, 6));
        Check.same("behind the yard", 0, x.hop(1, 23333));
        Check.same("the yard", ". . 0/4 . . 0/4 . . 0/4 . . 0/4", Check.lineOf(x));
        Check.same("another way", 2, x.hop(1, 322222));
        Check.same("the treads so far", 6, x.account(5));
        Check.same("the owner's trodden squares", 6, x.childOf(0, 6));
        Check.same("its hops", 3, x.childOf(1, 5));
        Check.same("the yard", ". . 0/3 . . 0/4 . . 0/3 . . 0/4", Check.lineOf(x));
        Check.same("the pebbles", 14, x.account(1));
    }

    private static void hopOnLines() {
        ChalkWarrants x = Check.yard("n9;n9;n9;c0@0;c1@1;c2@11|r4");
        Check.same("on two lines", 2, x.hop(2, 113333));
        Check.same("the yard", ". . . . . . . . . . . 2/1", Check.lineOf(x));
        Check.same("a freed square was trodden on", "1 1 0", x.childOf(0, 6) + " " + x.childOf(1, 6) + " " + x.childOf(2, 6));
        Check.same("its own squares", 0, x.childOf(0, 3));
        Check.same("on free squares", 1, x.hop(0, 111333));
        Check.same("the last square is free", -1, x.squareOf(11, false));
        Check.same("its treads", 1, x.childOf(0, 1));
        Check.same("the treads so far", 3, x.account(5));
        Check.same("even", true, x.isEven());
        Check.answers("n9;n9;c1@0", 1, y -> y.hop(0, 13333));
        Check.answers("n9;n9;c1@11", 0, y -> y.hop(0, 133313));
    }

    private static void hopRefused() {
        for (int wrong : new int[] {-1, 1, LEAST, MOST}) {
            Check.refused("n9", 3, 1, y -> y.hop(wrong, 3333));
            Check.refused("n9", 3, 1, y -> y.hop(wrong, 0));
        }
        Check.refused(TROD + "|w1", 7, 4, y -> y.hop(1, 3333));
        Check.refused(TROD + "|w1", 7, 4, y -> y.hop(1, 0));
        Check.refused(TROD + "|w1;r3", 7, 1, y -> y.hop(1, 3));
        int[] outOfRange = {0, -1, -3333, LEAST, MOST, 4, 3334, 3033, 3330, 43, 1111111113, 1111111111, 1111111123};
        for (int steps : outOfRange) {
            Check.refused(LINES, 1, 0, y -> y.hop(1, steps));
        }
        int[][] ends = {{1, 0}, {2, 1}, {3, 2}, {33, 5}, {333, 8}, {3331, 9}, {33311, 10}, {111111111, 8}, {222221, 10},
            {33333, 12}, {33331, 12}, {33311111, 12}, {333133, 12}, {333333333, 12}, {222222111, 12}, {333231, 12}};
        for (int[] end : ends) {
            Check.refused(LINES, 8, end[1], y -> y.hop(1, end[0]));
        }
    }

    private static void warrant() {
        ChalkWarrants x = Check.yard("n9;n9;n9;c0@2;c0@5;c0@8");
        x.hop(1, 3333);
        x.hop(2, 3333);
        x.hop(2, 3333);
        Check.same("for 6 treads", 6, x.warrant(2));
        Check.same("for 3 treads", 3, x.warrant(1));
        Check.same("the treads then", "0 0", x.childOf(1, 1) + " " + x.childOf(2, 1));
        Check.same("the chalk", "0 3 6", x.childOf(0, 2) + " " + x.childOf(1, 2) + " " + x.childOf(2, 2));
        Check.same("the order", "2!6 1!3", Check.warrantsOf(x));
        Check.same("the warrants written", 2, x.account(6));
        Check.same("the warrants", 2, x.account(4));
        Check.same("the treads so far", 9, x.account(5));
        Check.same("the pebbles", 24, x.account(1));
        Check.answers(LINES + "|h1:3333;h1:3333;h1:333111", 9, y -> y.warrant(1));
        Check.answers(LINES + "|h1:3333;h1:3333;h1:33321", 9, y -> y.warrant(1));
        Check.answers(LINES + "|h1:3333;h1:3333;h1:3333", "9 0", y -> y.warrant(1) + " " + y.childOf(1, 1));
        Check.answers(LINES + "|h1:3333;h1:3333", 8, y -> y.warrant(1));
    }

    private static void warrantRefused() {
        for (int wrong : new int[] {-1, 2, LEAST, MOST}) {
            Check.refused(TROD, 3, 2, y -> y.warrant(wrong));
        }
        Check.refused("", 3, 0, y -> y.warrant(0));
        Check.refused(TROD + "|w1", 7, 4, y -> y.warrant(1));
        Check.refused(TROD + "|w1;r1", 7, 3, y -> y.warrant(1));
        Check.refused(TROD, 9, 0, y -> y.warrant(0));
        Check.refused("n9;n9;c0@2;c0@5;h1:3333", 9, 2, y -> y.warrant(1));
        Check.refused(TROD + "|w1;s1", 9, 0, y -> y.warrant(1));
    }

    private static void strike() {
        ChalkWarrants x = Check.yard("n9;n9;n9;n9;c0@2;c0@5;c0@8|h1:3333;h2:3333;h3:3333;w2;w1;w3");
        Check.same("the order", "2!3 1!3 3!3", Check.warrantsOf(x));
        Check.same("from the middle", 6, x.strike(1));
        Check.same("the order", "2!3 3!3", Check.warrantsOf(x));
        Check.same("the chest", 6, x.account(2));
        Check.same("the first", 6, x.strike(2));
        Check.same("the order", "3!3", Check.warrantsOf(x));
        Check.same("no warrant then", 0, x.childOf(1, 2));
        Check.same("it can hop again", 3, x.hop(1, 3333));
        Check.same("and get a warrant again", 3, x.warrant(1));
        Check.same("at the end", "3!3 1!3", Check.warrantsOf(x));
        Check.same("none was ended by rain", 0, x.account(7));
        Check.same("written so far", 4, x.account(6));
        Check.same("even", true, x.isEven());
        Check.answers("n9;n4;c0@2;c0@5;c0@8;c0@11|h1:3333;w1", 0, y -> y.strike(1));
        Check.answers(TROD + "|w1;r3", 8, y -> y.strike(1));
    }

    private static void strikeRefused() {
        for (int wrong : new int[] {-1, 2, LEAST, MOST}) {
            Check.refused(TROD + "|w1", 3, 2, y -> y.strike(wrong));
        }
        Check.refused(TROD, 10, 0, y -> y.strike(1));
        Check.refused(TROD + "|w1", 10, 0, y -> y.strike(0));
        Check.refused(TROD + "|w1;r4", 10, 0, y -> y.strike(1));
        Check.refused("n9;n3;c0@2;c0@5;c0@8;c0@11|h1:3333;w1", 5, 1, y -> y.strike(1));
        Check.refused("n9;n0;c0@2;c0@5;c0@8;c0@11|h1:3333;w1", 5, 4, y -> y.strike(1));
        Check.refused("n9;n0", 10, 0, y -> y.strike(1));
    }

    private static void rain() {
        ChalkWarrants x = Check.yard(TROD + "|w1;c0@2;c1@0");
        Check.same("the yard", "1/5 . 0/6 . . 0/4 . . 0/4 . . 0/4", Check.lineOf(x));
        Check.same("nothing ends", 0, x.rain(3));
        Check.same("the yard", "1/2 . 0/3 . . 0/1 . . 0/1 . . 0/1", Check.lineOf(x));
        Check.same("the warrants", "1!1", Check.warrantsOf(x));
        Check.same("three squares and a warrant", 4, x.rain(1));
        Check.same("the yard", "1/1 . 0/2 . . . . . . . . .", Check.lineOf(x));
        Check.same("the warrants", "", Check.warrantsOf(x));
        Check.same("ended by rain", 1, x.account(7));
        Check.same("no warrant then", 0, x.childOf(1, 2));
        Check.same("it can hop again", 1, x.hop(1, 3333));
        Check.same("the last ones", 2, x.rain(9));
        Check.same("the owner", -1, x.squareOf(2, false));
        Check.same("ended by rain", 1, x.account(7));
        Check.same("repossessed", 0, x.account(8));
        // Five children, and all of them wanted: child 0 is the last one.
        ChalkWarrants all = Check.yard("n9;n9;n9;n9;n9;c0@2;c0@5;c0@8;c1@11;c1@10;c1@9"
                + "|h1:3333;h2:3333;h3:3333;h4:3333;h0:333111|w4;w3;w2;w1;w0");
        Check.same("five warrants", "4!4 3!4 2!4 1!3 0!3", Check.warrantsOf(all));
        Check.same("nothing but four squares", 4, all.rain(2));
        Check.same("five warrants", "4!2 3!2 2!2 1!1 0!1", Check.warrantsOf(all));
        Check.same("two warrants", 2, all.rain(1));
        Check.same("three warrants", "4!1 3!1 2!1", Check.warrantsOf(all));
        ChalkWarrants z = Check.yard("n9;n9;n9;n9;c0@2;c0@5;c0@8|h1:3333;h2:3333;h3:3333;h1:3333;w2;w1;w3");
        Check.same("two warrants and three squares end", 5, z.rain(3));
        Check.same("the warrants left", "1!3", Check.warrantsOf(z));
        Check.same("ended by rain", 2, z.account(7));
        Check.same("a warrant alone", 1, z.rain(4));
        Check.same("ended by rain", 3, z.account(7));
    }

    private static void rainRefused() {
        for (int wrong : new int[] {0, -1, 10, LEAST, MOST}) {
            Check.refused(TROD, 1, 0, y -> y.rain(wrong));
            Check.refused("", 1, 0, y -> y.rain(wrong));
        }
        Check.refused("", 12, 0, y -> y.rain(1));
        Check.refused("n9;n9", 12, 0, y -> y.rain(9));
        Check.refused("n9;c0@4;r5", 12, 0, y -> y.rain(1));
    }

    private static void term() {
        ChalkWarrants x = Check.yard("n5;n2;n0;c0@1;c0@7;c1@3;c1@9");
        Check.same("before it", "3 0 0 4", x.childOf(0, 0) + " " + x.childOf(1, 0) + " " + x.childOf(2, 0) + " " + x.account(2));
        Check.same("both squares of child 1", 2, x.term());
        Check.same("after it", "2 1 1 3", x.childOf(0, 0) + " " + x.childOf(1, 0) + " " + x.childOf(2, 0) + " " + x.account(2));
        Check.same("the yard", ". 0/5 . . . . . 0/5 . . . .", Check.lineOf(x));
        Check.same("repossessed", 2, x.account(8));
        Check.same("terms", 1, x.account(9));
        Check.same("the next one", 0, x.term());
        Check.same("after it", "1 2 2 2", x.childOf(0, 0) + " " + x.childOf(1, 0) + " " + x.childOf(2, 0) + " " + x.account(2));
        Check.same("from the lowest number on", 1, x.term());
        Check.same("the yard", ". 0/5 . . . . . . . . . .", Check.lineOf(x));
        Check.same("after it", "1 3 3 0", x.childOf(0, 0) + " " + x.childOf(1, 0) + " " + x.childOf(2, 0) + " " + x.account(2));
        Check.same("the chest gives to the first alone", 0, x.term());
        Check.same("after it", "1 3 3 0", x.childOf(0, 0) + " " + x.childOf(1, 0) + " " + x.childOf(2, 0) + " " + x.account(2));
        Check.same("repossessed", 3, x.account(8));
        Check.same("terms", 4, x.account(9));
        Check.same("even", true, x.isEven());
        Check.answers("n3;n3;n3;n3;n3;c4@0;c3@1;c0@11", "0 4 15", y -> y.term() + " " + y.childOf(1, 0) + " "
                + (y.account(1) + y.account(2)));
        Check.answers("n9", "0 9 0", y -> y.term() + " " + y.childOf(0, 0) + " " + y.account(2));
        // Child 0 has no pebble when it pays, though child 1 fills the chest later.
        Check.answers("n1;n9;c0@0;c1@1", "1 . 1/5", y -> y.term() + " " + Check.lineOf(y).substring(0, 5));
        Check.answers(TROD + "|w1", "1!4", y -> y.term() == 0 ? Check.warrantsOf(y) : "lost");
        Check.refused("", 13, 0, y -> y.term());
    }

    private static void give() {
        ChalkWarrants x = Check.yard("n99;n50");
        Check.same("one", 98, x.give(0, 1, 1));
        Check.same("back", 0, x.give(1, 0, 51));
        Check.same("the most", 50, x.give(0, 1, 99));
        Check.same("their pebbles", "50 99", x.childOf(0, 0) + " " + x.childOf(1, 0));
        Check.same("the chest", 0, x.account(2));
        Check.same("even", true, x.isEven());
        Check.answers("n99;n99", "0 198", y -> y.give(0, 1, 99) + " " + y.childOf(1, 0));
        Check.answers(TROD + "|w1", 8, y -> y.give(1, 0, 1));
    }

    private static void giveRefused() {
        for (int wrong : new int[] {-1, 2, LEAST, MOST}) {
            Check.refused("n9;n9", 3, 2, y -> y.give(wrong, 0, 1));
            Check.refused("n9;n9", 3, 2, y -> y.give(0, wrong, 1));
            Check.refused("n9;n9", 3, 2, y -> y.give(wrong, wrong, 0));
        }
        for (int wrong : new int[] {0, -1, 100, LEAST, MOST}) {
            Check.refused("n9;n9", 1, 0, y -> y.give(0, 1, wrong));
            Check.refused("n9;n9", 11, 1, y -> y.give(1, 1, wrong));
        }
        Check.refused("n9;n9", 11, 0, y -> y.give(0, 0, 1));
        Check.refused("n9;n9", 5, 1, y -> y.give(0, 1, 10));
        Check.refused("n0;n9", 5, 99, y -> y.give(0, 1, 99));
    }
}
