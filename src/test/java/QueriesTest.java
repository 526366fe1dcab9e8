import java.util.NoSuchElementException;

/** Promises 10 to 25 and 33 to 35: what is told of the yard. */
public final class QueriesTest {
    private static final Class<IndexOutOfBoundsException> NO_INDEX = IndexOutOfBoundsException.class;
    private static final Class<IllegalArgumentException> NO_ARGUMENT = IllegalArgumentException.class;
    private static final Class<NoSuchElementException> NO_ELEMENT = NoSuchElementException.class;
    private static final int[] NO_CHILD = {-1, 3, 5, Integer.MIN_VALUE, Integer.MAX_VALUE};
    /** Child 0 owns 2, 3 and 5, child 1 owns 8 and 11, child 2 owns none and has trodden on 2, 5, 8 and 11. */
    private static final String MIXED = "n9;n6;n7;c0@2;c0@3;c0@5;c0@5;c1@8;c1@11|h2:3333";

    public static void main(String[] args) {
        squareOf();
        childOf();
        squares();
        warrantAt();
        fewest();
        step();
        wouldTread();
        longest();
        gap();
        wouldEnd();
        rainFor();
        wouldLose();
        termsFor();
        ranked();
        isEven();
        means();
        account();
        Check.end("QueriesTest");
    }

    private static void squareOf() {
        ChalkWarrants x = Check.yard(MIXED);
        Check.same("chalk", "0 4 6 4 4", x.squareOf(0, true) + " " + x.squareOf(2, true) + " " + x.squareOf(5, true)
                + " " + x.squareOf(8, true) + " " + x.squareOf(11, true));
        Check.same("owners", "-1 0 0 1 1", x.squareOf(0, false) + " " + x.squareOf(2, false) + " "
                + x.squareOf(5, false) + " " + x.squareOf(8, false) + " " + x.squareOf(11, false));
        for (int wrong : new int[] {-1, 12, Integer.MIN_VALUE, Integer.MAX_VALUE}) {
            Check.thrown(MIXED, NO_INDEX, y -> y.squareOf(wrong, true));
            Check.thrown(MIXED, NO_INDEX, y -> y.squareOf(wrong, false));
        }
    }

    private static void childOf() {
        ChalkWarrants x = Check.yard(MIXED + "|w2;h0:233112;h1:13333");
        int[][] due = {{5, 2, 0, 3, 14, 1, 3}, {4, 1, 0, 2, 6, 1, 4}, {7, 0, 4, 0, 0, 1, 0}};
        for (int child = 0; child < 3; child++) {
            for (int what = 0; what < 7; what++) {
                Check.same("childOf(" + child + ", " + what + ")", due[child][what], x.childOf(child, what));
            }
        }
        Check.answers("n9;n9;c0@0;c0@0;c1@5;c0@11", "2 12", y -> y.childOf(0, 3) + " " + y.childOf(0, 4));
        for (int wrong : NO_CHILD) {
            Check.thrown(MIXED, NO_INDEX, y -> y.childOf(wrong, 0));
            Check.thrown(MIXED, NO_INDEX, y -> y.childOf(wrong, 7));
        }
        for (int wrong : new int[] {-1, 7, Integer.MIN_VALUE, Integer.MAX_VALUE}) {
            Check.thrown(MIXED, NO_ARGUMENT, y -> y.childOf(0, wrong));
        }
    }

    private static void squares() {
        Check.answers(MIXED, 0b101100, x -> x.squares(0));
        Check.answers(MIXED, 0b100100000000, x -> x.squares(1));
        Check.answers(MIXED, 0, x -> x.squares(2));
        Check.answers("n9;c0@0", 1, x -> x.squares(0));
        for (int wrong : NO_CHILD) {
            Check.thrown(MIXED, NO_INDEX, y -> y.squares(wrong));
        }
    }

    private static void warrantAt() {
        String texts = "n9;n9;n9;n9;c0@2;c0@5;c0@8|h1:3333;h2:3333;h3:3333;w2;w1;w3";
        ChalkWarrants x = Check.yard(texts);
        Check.same("the order", "2 1 3", x.warrantAt(0) + " " + x.warrantAt(1) + " " + x.warrantAt(2));
        for (int wrong : new int[] {-1, 3, 5, Integer.MIN_VALUE, Integer.MAX_VALUE}) {
            Check.thrown(texts, NO_ELEMENT, y -> y.warrantAt(wrong));
        }
        Check.thrown("n9", NO_ELEMENT, y -> y.warrantAt(0));
        Check.thrown(texts + "|s2", NO_ELEMENT, y -> y.warrantAt(2));
        Check.answers(texts + "|s2", 1, y -> y.warrantAt(0));
    }

    private static void fewest() {
        String row = "n99;n99;n0|c0@0;c0@1;c0@2;c0@3;c0@4;c0@5;c0@6;c0@7;c0@8;c0@9;c0@10|c0@11";
        fewestIs("n0", 0, 0);
        fewestIs("n9;n9;c1@2;c1@5", 0, 0);
        fewestIs("n9;n9;c1@3;c1@4;c1@5", 0, 1);
        fewestIs("n9;n9;c1@3;c1@4;c1@5", 1, 0);
        fewestIs("n9;n9;c1@0;c1@1;c1@2", 0, 1);
        fewestIs("n9;n9;c1@9;c1@10;c1@11", 0, 1);
        fewestIs("n9;n9;c1@10;c1@11", 0, 0);
        fewestIs("n9;n9;c1@11", 0, 0);
        fewestIs("n9;n9;c1@0;c1@1;c1@2;c1@6;c1@7;c1@8", 0, 2);
        fewestIs("n9;n9;c1@0;c1@1;c1@2;c1@4;c1@5;c1@7;c1@8", 0, 1);
        fewestIs("n9;n9;c1@9;c1@10", 0, 0);
        fewestIs("n9;n9;c1@8;c1@9;c1@10", 0, 1);
        fewestIs(row, 0, 0);
        fewestIs(row, 1, 4);
        fewestIs("n9;n9;n9;c1@3;c2@4;c1@5", 0, 1);
        fewestIs("n9;n9;c1@0;c1@1;c1@2|h0:3333;h0:3333;h0:3333;w0", 0, 1);
        // Both ways in turn on one yard, for children with and without lines.
        ChalkWarrants x = Check.yard("n9;n9;c1@0;c1@1;c1@2;c1@9;c1@10;c1@11");
        Check.same("the ways in turn", "2 2 2 0 0 2", x.fewest(0) + " " + x.fewestAgain(0) + " " + x.fewest(0) + " "
                + x.fewestAgain(1) + " " + x.fewest(1) + " " + x.fewestAgain(0));
        for (int wrong : NO_CHILD) {
            Check.thrown(MIXED, NO_INDEX, y -> y.fewest(wrong));
            Check.thrown(MIXED, NO_INDEX, y -> y.fewestAgain(wrong));
        }
    }

    private static void fewestIs(String texts, int child, int due) {
        Check.answers(texts, due, y -> y.fewest(child));
        Check.answers(texts, due, y -> y.fewestAgain(child));
    }

    private static void step() {
        stepsAre("n0", 0, "3333");
        // 3333 would have fewer steps, but more lines; behind the yard the last step is the greatest.
        stepsAre("n9;n9;c1@2;c1@5;c1@8;c1@11", 0, "23333");
        stepsAre("n9;n9;c1@2;c1@5;c1@8;c1@11", 1, "3333");
        stepsAre("n9;n9;c1@2", 0, "23333");
        stepsAre("n9;n9;c1@5", 0, "32333");
        stepsAre("n9;n9;c1@8", 0, "33233");
        stepsAre("n9;n9;c1@11", 0, "33323");
        // One line must be trodden on: the hop with the fewest steps does so at its first one.
        stepsAre("n9;n9;c1@0;c1@1;c1@2", 0, "3333");
        stepsAre("n9;n9;c1@3;c1@4;c1@5;c1@2;c1@8", 0, "23333");
        stepsAre("n9;n9;c1@2;c1@1;c1@5", 0, "13333");
        stepsAre("n9;n9;c1@2;c1@5;c1@4;c1@8", 0, "22333");
        stepsAre("n9;n9;c1@2;c1@1;c1@5;c1@4;c1@8;c1@7;c1@11;c1@10", 0, "13333");
        stepsAre("n9;n9;c1@2;c1@5;c1@8;c1@11|h0:3333;w0", 0, "23333");
        Check.answers("n9;n9;c1@2", "2 3 2", x -> x.step(0, 0) + " " + x.step(1, 0) + " " + x.step(0, 0));
        for (int wrong : NO_CHILD) {
            Check.thrown(MIXED, NO_INDEX, y -> y.step(wrong, 0));
            Check.thrown(MIXED, NO_INDEX, y -> y.step(wrong, -1));
        }
        for (int wrong : new int[] {-1, 4, 12, Integer.MIN_VALUE, Integer.MAX_VALUE}) {
            Check.thrown("n0", NO_ELEMENT, y -> y.step(0, wrong));
        }
    }

    private static void stepsAre(String texts, int child, String due) {
        for (int place = 0; place < due.length(); place++) {
            int at = place;
            Check.answers(texts, due.charAt(place), y -> (char) ('0' + y.step(child, at)));
        }
        Check.thrown(texts, NO_ELEMENT, y -> y.step(child, due.length()));
    }

    private static void wouldTread() {
        Check.answers(MIXED, 4, x -> x.wouldTread(2, 3333));
        Check.answers(MIXED, 2, x -> x.wouldTread(0, 3333));
        Check.answers(MIXED, 2, x -> x.wouldTread(1, 3333));
        Check.answers(MIXED, 5, x -> x.wouldTread(2, 31233));
        Check.answers(MIXED, 0, x -> x.wouldTread(0, 33133));
        Check.answers(MIXED, 5, x -> x.wouldTread(2, 111111123));
        Check.answers(MIXED + "|w2", 4, x -> x.wouldTread(2, 3333));
        ChalkWarrants x = Check.yard(MIXED);
        String before = Check.picture(x);
        x.wouldTread(2, 3333);
        Check.same("the state after it", before, Check.picture(x));
        for (int wrong : NO_CHILD) {
            Check.thrown(MIXED, NO_INDEX, y -> y.wouldTread(wrong, 3333));
            Check.thrown(MIXED, NO_INDEX, y -> y.wouldTread(wrong, 0));
        }
        for (int wrong : new int[] {0, -1, -3333, 3334, 3033, 4, 333, 1, 111111111, 33333, 333133, 1111111113,
            Integer.MIN_VALUE, Integer.MAX_VALUE}) {
            Check.thrown(MIXED, NO_ARGUMENT, y -> y.wouldTread(2, wrong));
        }
        Check.answers(MIXED, 4, y -> y.wouldTread(2, 333111));
    }

    private static void longest() {
        Check.answers(MIXED, 2, x -> x.longest(0));
        Check.answers(MIXED, 1, x -> x.longest(1));
        Check.answers(MIXED, 0, x -> x.longest(2));
        Check.answers("n9;n9;c0@0;c0@1;c1@2;c0@3;c0@4;c0@5", 3, x -> x.longest(0));
        Check.answers("n9;n9;c0@0;c0@11", 1, x -> x.longest(0));
        Check.answers("n9;c0@9;c0@10;c0@11", 3, x -> x.longest(0));
        Check.answers("n9;c0@0;c0@1;c0@2;c0@3;c0@5", 4, x -> x.longest(0));
        for (int wrong : NO_CHILD) {
            Check.thrown(MIXED, NO_INDEX, y -> y.longest(wrong));
        }
    }

    private static void gap() {
        Check.answers("", 12, x -> x.gap());
        Check.answers(MIXED, 2, x -> x.gap());
        Check.answers("n9;c0@4", 7, x -> x.gap());
        Check.answers("n9;c0@7", 7, x -> x.gap());
        Check.answers("n9;n9;c0@3;c1@8", 4, x -> x.gap());
        Check.answers("n99|c0@0;c0@1;c0@2;c0@3;c0@4;c0@5;c0@6;c0@7;c0@8;c0@9;c0@10|c0@11", 0, x -> x.gap());
    }

    private static void wouldEnd() {
        String texts = MIXED + "|w2";
        int[] due = {0, 0, 0, 4, 5, 6, 6, 6, 6};
        for (int rain = 1; rain < 10; rain++) {
            int much = rain;
            Check.answers(texts, due[rain - 1], x -> x.wouldEnd(much));
            Check.answers(texts, due[rain - 1], x -> x.rain(much));
        }
        ChalkWarrants x = Check.yard(texts);
        String before = Check.picture(x);
        x.wouldEnd(9);
        Check.same("the state after it", before, Check.picture(x));
        Check.answers("", 0, y -> y.wouldEnd(1));
        for (int wrong : new int[] {0, -1, 10, Integer.MIN_VALUE, Integer.MAX_VALUE}) {
            Check.thrown(texts, NO_ARGUMENT, y -> y.wouldEnd(wrong));
        }
    }

    private static void rainFor() {
        Check.answers(MIXED + "|w2", 4, x -> x.rainFor(2));
        Check.answers(MIXED + "|w2;r1", 3, x -> x.rainFor(2));
        Check.thrown(MIXED, NO_ELEMENT, x -> x.rainFor(2));
        Check.thrown(MIXED + "|w2", NO_ELEMENT, x -> x.rainFor(0));
        Check.thrown(MIXED + "|w2;r4", NO_ELEMENT, x -> x.rainFor(2));
        for (int wrong : NO_CHILD) {
            Check.thrown(MIXED, NO_INDEX, y -> y.rainFor(wrong));
        }
    }

    private static void wouldLose() {
        Check.answers("n7;n5;c0@2;c0@3;c0@5;c0@6;c0@7", 0b11100000, x -> x.wouldLose(0));
        Check.answers("n7;n5;c0@2;c0@3;c0@5;c0@6;c0@7", 0, x -> x.wouldLose(1));
        Check.answers("n2;n5;c0@4;c0@3", 0b11000, x -> x.wouldLose(0));
        Check.answers("n4;c0@0;c0@11", 0, x -> x.wouldLose(0));
        Check.answers("n3;c0@0;c0@11", 0b100000000000, x -> x.wouldLose(0));
        Check.answers(MIXED, 0, x -> x.wouldLose(1));
        ChalkWarrants x = Check.yard("n2;n5;c0@4;c0@3");
        String before = Check.picture(x);
        x.wouldLose(0);
        Check.same("the state after it", before, Check.picture(x));
        for (int wrong : NO_CHILD) {
            Check.thrown(MIXED, NO_INDEX, y -> y.wouldLose(wrong));
        }
    }

    private static void termsFor() {
        Check.answers("n2;n5;c0@4;c0@3", 1, x -> x.termsFor(0));
        // Two squares cost 2 and bring back 1: with 40 pebbles the 40th term is the first with too few.
        Check.answers("n42;c0@0;c0@1", 40, x -> x.termsFor(0));
        Check.thrown("n43;c0@0;c0@1", NO_ELEMENT, x -> x.termsFor(0));
        Check.answers("n41;c0@0;c0@1", 39, x -> x.termsFor(0));
        // A pebble paid comes back from the chest.
        Check.thrown("n2;c0@0", NO_ELEMENT, x -> x.termsFor(0));
        // From the second term on the chest has but one pebble, which child 0 gets.
        Check.answers("n0;n4;c1@0", 5, x -> x.termsFor(1));
        Check.thrown("n9;n9;c0@0", NO_ELEMENT, x -> x.termsFor(1));
        Check.answers("n9;n0;c0@0;c0@1", 7, x -> x.termsFor(0));
        ChalkWarrants x = Check.yard("n5;n5;c0@4;c0@3;c1@2");
        String before = Check.picture(x);
        x.termsFor(0);
        Check.same("the state after it", before, Check.picture(x));
        for (int wrong : NO_CHILD) {
            Check.thrown(MIXED, NO_INDEX, y -> y.termsFor(wrong));
        }
    }

    private static void ranked() {
        String texts = "n9;n8;n9;n9;c0@2;c0@5;c1@8;c1@11;c2@0|h3:3333;h2:3333;h1:3333;h3:33323;w3";
        // Pebbles 7 6 8 9, squares 2 2 1 0, treads 0 2 4 0, chalk of the warrant 0 0 0 7.
        String[] due = {"3 2 0 1", "0 1 2 3", "2 1 0 3", "3 0 1 2"};
        ChalkWarrants x = Check.yard(texts);
        for (int measure = 0; measure < 4; measure++) {
            Check.same("measure " + measure, due[measure], x.ranked(measure, 0) + " " + x.ranked(measure, 1) + " "
                    + x.ranked(measure, 2) + " " + x.ranked(measure, 3));
        }
        ChalkWarrants five = Check.yard("n1;n2;n3;n2;n1");
        Check.same("five children", "2 1 3 0 4", five.ranked(0, 0) + " " + five.ranked(0, 1) + " " + five.ranked(0, 2)
                + " " + five.ranked(0, 3) + " " + five.ranked(0, 4));
        for (int wrong : new int[] {-1, 4, Integer.MIN_VALUE, Integer.MAX_VALUE}) {
            Check.thrown(texts, NO_ARGUMENT, y -> y.ranked(wrong, 0));
            Check.thrown(texts, NO_ARGUMENT, y -> y.ranked(wrong, 4));
            Check.thrown("", NO_ARGUMENT, y -> y.ranked(wrong, 0));
        }
        for (int wrong : new int[] {-1, 4, 5, Integer.MIN_VALUE, Integer.MAX_VALUE}) {
            Check.thrown(texts, NO_ELEMENT, y -> y.ranked(0, wrong));
        }
        Check.thrown("", NO_ELEMENT, y -> y.ranked(3, 0));
    }

    private static void isEven() {
        String[] texts = {"", "n9", MIXED, MIXED + "|w2", MIXED + "|w2;s2", MIXED + "|t;t;t;t", MIXED + "|r6",
            MIXED + "|g0>1*2", MIXED + "|r3;h2:3333"};
        for (String text : texts) {
            Check.answers(text, true, x -> x.isEven());
        }
        Check.answers("n9", true, x -> x.child(5) + x.undo() == 2 && x.isEven());
    }

    private static void means() {
        Check.answers(MIXED, (4.0 + 5.0 + 6.0 + 4.0 + 4.0) / 5.0, x -> x.meanChalk());
        Check.answers("n9;c0@0;c0@0;c0@1;c0@2", 17.0 / 3.0, x -> x.meanChalk());
        Check.answers("n9;c0@0", 5.0, x -> x.meanChalk());
        Check.thrown("", ArithmeticException.class, x -> x.meanChalk());
        Check.thrown("n9;c0@0;r5", ArithmeticException.class, x -> x.meanChalk());
        Check.answers(MIXED, 5.0f / 12.0f, x -> x.ownedShare());
        Check.answers("n9;n9;c0@0;c1@1;c1@3;c0@4", 4.0f / 12.0f, x -> x.ownedShare());
        Check.answers("n99|c0@0;c0@1;c0@2;c0@3;c0@4;c0@5;c0@6;c0@7;c0@8;c0@9;c0@10|c0@11", 1.0f, x -> x.ownedShare());
        Check.answers("n9", 0.0f, x -> x.ownedShare());
    }

    private static void account() {
        ChalkWarrants x = Check.yard(MIXED + "|w2;h1:3333;h1:3333|r4;h0:3333;t|t;t|t");
        Check.type(x, "xyz");
        int[] due = {3, 22, 0, 1, 0, 8, 1, 1, 0, 4, 6, 3};
        for (int what = 0; what < 12; what++) {
            Check.same("account " + what, due[what], x.account(what));
        }
        Check.answers("n5;n2;n0;c0@1;c0@7;c1@3;c1@9;t", "4 3 2 2",
                y -> y.account(1) + " " + y.account(2) + " " + y.account(3) + " " + y.account(8));
        Check.answers(MIXED, "16 6 5", y -> y.account(1) + " " + y.account(2) + " " + y.account(3));
        for (int wrong : new int[] {-1, 12, Integer.MIN_VALUE, Integer.MAX_VALUE}) {
            Check.thrown(MIXED, NO_ARGUMENT, y -> y.account(wrong));
        }
    }
}
