/** The boundaries that the promises 10 to 25 and 33 to 35 name: what is told of the yard. */
public final class EdgesOfAnswersTest extends Edges {
    private static final String[] NO_SQUARE = {"MIN", "-1", "12", "13", "MAX"};
    /** To stand behind a text that lets children come: child 1 owns all squares but 11. */
    private static final String ROW = "|c1@0;c1@1;c1@2;c1@3;c1@4;c1@5;c1@6;c1@7;c1@8;c1@9;c1@10";

    public static void main(String[] args) throws ReflectiveOperationException {
        run(EdgesOfAnswersTest.class);
    }

    @Says(promise = 10, value = {"Returns a number of a square.", "isChalk: whether its chalk is told, and not who owns it",
        "Returns the chalk, 0 for none, or the child, -1 for none."})
    static void numbersOfASquare() {
        tells("n9", "squareOf 0 true", 0);
        tells("n9", "squareOf 0 false", -1);
        tells("n9;c0@0;r4", "squareOf 0 true", 1);
        tells("n9;c0@0;r4", "squareOf 0 false", 0);
        tells("n9;c0@0;r5", "squareOf 0 true", 0);
        tells("n9;c0@0;r5", "squareOf 0 false", -1);
        tells("n9;c0@11;c0@11;c0@11", "squareOf 11 true", 9);
        tells("n9;c0@11;c0@11;c0@11;r1", "squareOf 11 true", 8);
        tells(FIVE + ";c4@11", "squareOf 11 false", 4);
        tells(FIVE + ";c4@11", "squareOf 11 true", 5);
        tells(FIVE + ";c4@11", "squareOf 10 false", -1);
    }

    @Says(promise = 10, value = {"square: the square", "Throws IndexOutOfBoundsException if there is no such square"})
    static void noSuchSquare() {
        for (String wrong : NO_SQUARE) {
            tells("n99" + ALL, "squareOf " + wrong + " true", NO_INDEX);
            tells("n99" + ALL, "squareOf " + wrong + " false", NO_INDEX);
        }
        for (int square = 0; square < 12; square++) {
            tells("n99" + ALL, "squareOf " + square + " true", 5);
            tells("n99" + ALL, "squareOf " + square + " false", 0);
        }
    }

    @Says(promise = 11, value = {"Returns a number of a child.", "what: 0 for the pebbles, 1 for the treads, 2 for the chalk "
            + "of the warrant, 0 without one, 3 for the own squares, 4 for the chalk of these together, 5 for the hops so "
            + "far, 6 for how many squares of this child were trodden on so far", "Returns the number."})
    static void numbersOfAChild() {
        childIs("n0", 0, 0, 0, 0, 0, 0, 0, 0);
        childIs("n99", 0, 99, 0, 0, 0, 0, 0, 0);
        childIs("n99;n99;g0>1*99", 1, 198, 0, 0, 0, 0, 0, 0);
        childIs(LINES, 0, 5, 0, 0, 4, 20, 0, 0);
        childIs(LINES, 1, 9, 0, 0, 0, 0, 0, 0);
        childIs(TROD, 0, 5, 0, 0, 4, 16, 0, 4);
        childIs(TROD, 1, 9, 4, 0, 0, 0, 1, 0);
        childIs(WANTED, 1, 9, 0, 4, 0, 0, 1, 0);
        childIs(WANTED + "|r3", 1, 9, 0, 1, 0, 0, 1, 0);
        childIs(WANTED + "|r4", 1, 9, 0, 0, 0, 0, 1, 0);
        childIs(WANTED + "|r4", 0, 5, 0, 0, 0, 0, 0, 4);
        childIs(WANTED + "|s1", 1, 5, 0, 0, 0, 0, 1, 0);
        childIs(NINE, 1, 9, 9, 0, 0, 0, 3, 0);
        childIs(NINE, 0, 5, 0, 0, 4, 11, 0, 9);
        childIs(NINE + "|h1:3333|w1", 1, 9, 0, 9, 0, 0, 4, 0);
        childIs("n99" + ALL, 0, 87, 0, 0, 12, 60, 0, 0);
        // The last chalk of a square is trodden on too; a hop that is refused does not count, nor one on no line.
        childIs("n9;n9;c0@2;r4;h1:3333", 0, 8, 0, 0, 0, 0, 0, 1);
        childIs(LINES + "|?hop 1 333|?hop 1 33333", 1, 9, 0, 0, 0, 0, 0, 0);
        childIs(LINES + "|hop 1 23333", 1, 9, 0, 0, 0, 0, 1, 0);
        childIs("n3;c0@0;c0@0;c0@0", 0, 0, 0, 0, 1, 9, 0, 0);
    }

    private static void childIs(String before, int child, int... due) {
        for (int what = 0; what < due.length; what++) {
            tells(before, "childOf " + child + " " + what, due[what]);
        }
    }

    @Says(promise = 11, value = {"child: the child", "Throws IndexOutOfBoundsException if there is no such child"})
    static void noChildForItsNumber() {
        noChild("", 0, "childOf # 0");
        noChild("n9", 1, "childOf # 6");
        noChild(FIVE, 5, "childOf # 0");
        noChild(FIVE, 5, "childOf # 7");
        tells(FIVE, "childOf 0 0", 1);
        tells(FIVE, "childOf 4 0", 5);
        tells(FIVE + "|undo", "childOf 0 0", NO_INDEX);
    }

    @Says(promise = 11, value = "Throws IllegalArgumentException if what is not from 0 to 6")
    static void noSuchNumberOfAChild() {
        for (String wrong : new String[] {"MIN", "-1", "7", "8", "MAX"}) {
            tells(TROD, "childOf 0 " + wrong, NO_ARGUMENT);
            tells(TROD, "childOf 2 " + wrong, NO_INDEX);
        }
        tells(TROD, "childOf 0 0", 5);
        tells(TROD, "childOf 0 1", 0);
        tells(TROD, "childOf 0 5", 0);
        tells(TROD, "childOf 0 6", 4);
    }

    @Says(promise = 12, value = {"Returns the squares of a child.", "Returns the set of them, bit k for the square k."})
    static void setOfSquares() {
        tells("n9", "squares 0", 0);
        tells("n9;n9;c0@0", "squares 0", 1);
        tells("n9;n9;c0@0", "squares 1", 0);
        tells("n9;c0@1", "squares 0", 2);
        tells("n9;c0@10", "squares 0", 1024);
        tells("n9;c0@11", "squares 0", 2048);
        tells("n9;c0@0;c0@11", "squares 0", 2049);
        tells("n99" + ALL, "squares 0", 4095);
        tells("n9;c0@0;c0@11;c0@11;r5", "squares 0", 2048);
        tells("n9;n9;c0@0;c1@1;c0@2", "squares 0", 5);
    }

    @Says(promise = 12, value = {"child: the child", "Throws IndexOutOfBoundsException if there is no such child"})
    static void noChildForItsSquares() {
        noChild("", 0, "squares #");
        noChild("n9", 1, "squares #");
        noChild(FIVE + ";c4@0", 5, "squares #");
        tells(FIVE + ";c4@0", "squares 4", 1);
    }

    @Says(promise = 13, value = {"Returns against whom a warrant stands.", "place: its place in their order, from 0",
        "Returns the child.", "Throws NoSuchElementException if there is no such place"})
    static void placesOfWarrants() {
        for (String wrong : new String[] {"MIN", "-1", "0", "1", "5", "MAX"}) {
            tells(TROD, "warrantAt " + wrong, NO_ELEMENT);
        }
        tells(WANTED, "warrantAt 0", 1);
        tells(WANTED, "warrantAt 1", NO_ELEMENT);
        tells(WANTED, "warrantAt -1", NO_ELEMENT);
        tells(THREE + "|w2;w1;w3", "warrantAt 0", 2);
        tells(THREE + "|w2;w1;w3", "warrantAt 1", 1);
        tells(THREE + "|w2;w1;w3", "warrantAt 2", 3);
        tells(THREE + "|w2;w1;w3", "warrantAt 3", NO_ELEMENT);
        tells(THREE + "|w2;w1;w3|s2", "warrantAt 0", 1);
        tells(THREE + "|w2;w1;w3|s2", "warrantAt 1", 3);
        tells(THREE + "|w2;w1;w3|s2", "warrantAt 2", NO_ELEMENT);
        // Against all five children, as many as there can be.
        String all = "n9;n9;n9;n9;n9;c0@2;c0@5;c0@8;c1@11;c1@10;c1@9|h1:3333;h2:3333;h3:3333;h4:3333;h0:333111|w4;w3;w2;w1";
        tells(all, "warrantAt 4", NO_ELEMENT);
        tells(all + "|w0", "warrantAt 4", 0);
        tells(all + "|w0", "warrantAt 5", NO_ELEMENT);
        tells(all + "|w0", "warrantAt 0", 4);
    }

    @Says(promise = 14, value = {"Returns on how few lines a child can tread on a hop, warrant or not: from the square 11 "
            + "back.", "Returns on how few."})
    static void fewestLines() {
        fewestIs("fewest");
    }

    @Says(promise = 15, value = {"Returns the same by a second way: from the beginning on.", "Returns on how few."})
    static void fewestLinesAgain() {
        fewestIs("fewestAgain");
    }

    private static void fewestIs(String name) {
        tells("n0", name + " 0", 0);
        // Two lines side by side can be hopped over, three cannot; at either end too.
        tells("n9;n9;c1@0;c1@1", name + " 0", 0);
        tells("n9;n9;c1@0;c1@1;c1@2", name + " 0", 1);
        tells("n9;n9;c1@1;c1@2;c1@3", name + " 0", 1);
        tells("n9;n9;c1@4;c1@5", name + " 0", 0);
        tells("n9;n9;c1@4;c1@5;c1@6", name + " 0", 1);
        tells("n9;n9;c1@10;c1@11", name + " 0", 0);
        tells("n9;n9;c1@9;c1@10;c1@11", name + " 0", 1);
        tells("n9;n9;c1@8;c1@9;c1@10", name + " 0", 1);
        tells("n9;n9;c1@11", name + " 0", 0);
        // Five are as bad as three, six cost one more.
        tells("n9;n9;c1@3;c1@4;c1@5;c1@6;c1@7", name + " 0", 1);
        tells("n9;n9;c1@3;c1@4;c1@5;c1@6;c1@7;c1@8", name + " 0", 2);
        // An own square among them is none.
        tells("n9;n9;c1@3;c0@4;c1@5", name + " 0", 0);
        tells("n9;n9;c1@3;c0@4;c1@5", name + " 1", 0);
        tells("n9;n99" + ROW, name + " 0", 3);
        tells("n9;n99" + ROW + "|c1@11", name + " 0", 4);
        tells("n9;n99" + ROW + "|c1@11", name + " 1", 0);
        tells("n9;n99" + ROW + "|c0@11", name + " 0", 3);
        tells("n9;n99" + ROW + "|c0@11", name + " 1", 0);
        // The last chalk of a line counts as much as any.
        tells("n9;n9;c1@0;c1@1;c1@2;r4", name + " 0", 1);
        tells("n9;n9;c1@0;c1@1;c1@2;r5", name + " 0", 0);
        // Whatever was asked before, and for whom.
        String third = "n9;n9;c1@3;c1@4;c1@5|c1@9;c1@10;c1@11|";
        for (String first : new String[] {"fewest 0", "fewestAgain 0", "fewest 1", "fewestAgain 1", "step 0 0", "step 1 3"}) {
            tells(third + first, name + " 0", 2);
            tells(third + first, name + " 1", 0);
            tells(third + first + "|r5", name + " 0", 0);
        }
        // With a warrant as without one.
        tells("n9;n9;c0@0;c0@1;c0@2;c0@5;c0@8|h1:3333|w1", name + " 1", 1);
        tells("n9;n9;c0@0;c0@1;c0@2;c0@5;c0@8|h1:3333", name + " 1", 1);
    }

    @Says(promise = 14, value = {"child: the child", "Throws IndexOutOfBoundsException if there is no such child"})
    static void noChildForFewest() {
        noChild("", 0, "fewest #");
        noChild("n9", 1, "fewest #");
        noChild(FIVE, 5, "fewest #");
        tells(FIVE, "fewest 4", 0);
    }

    @Says(promise = 15, value = {"child: the child", "Throws IndexOutOfBoundsException if there is no such child"})
    static void noChildForFewestAgain() {
        noChild("", 0, "fewestAgain #");
        noChild("n9", 1, "fewestAgain #");
        noChild(FIVE, 5, "fewestAgain #");
        tells(FIVE, "fewestAgain 4", 0);
    }

    @Says(promise = 16, value = {"Returns a step of the hop on which a child treads on the fewest lines, of several the one "
            + "with the fewest steps, of these with the greatest first step, then with the greatest second one, and so on.",
        "place: its place, from 0", "Returns the step.", "Throws NoSuchElementException if there is no such place"})
    static void stepsOfTheBestHop() {
        stepsAre("n0", 0, "3333");
        stepsAre(LINES, 0, "3333");
        stepsAre(LINES, 1, "23333");
        stepsAre(WANTED, 1, "23333");
        stepsAre("n9;n9;c1@2", 0, "23333");
        stepsAre("n9;n9;c1@11", 0, "33323");
        stepsAre("n9;n9;c1@11;c1@10", 0, "33313");
        stepsAre("n9;n9;c1@11;c1@10;c1@9", 0, "3333");
        stepsAre("n9;n9;c1@0;c1@1", 0, "3333");
        stepsAre("n9;n9;c1@1;c1@2", 0, "13333");
        stepsAre("n9;n9;c1@0;c1@1;c1@2", 0, "3333");
        stepsAre("n9;n9;c1@8;c1@11", 0, "33233");
        stepsAre("n9;n9;c1@7;c1@8;c1@10;c1@11", 0, "33133");
        stepsAre("n9;n9;c1@2;c1@4;c1@5;c1@7;c1@8", 0, "22333");
        stepsAre("n9;n9;c1@1;c1@2;c1@4;c1@6;c1@7;c1@8;c1@10", 0, "13333");
        // Six steps are the most: two of them that go on by 3 squares or fewer would be told as one.
        stepsAre("n9;n9;c1@1;c1@2;c1@5;c1@6;c1@9;c1@10", 0, "131313");
        stepsAre("n9;n9;c1@0;c1@2;c1@4;c1@6;c1@8;c1@10", 0, "222223");
        stepsAre("n9;n9;c1@0;c1@1;c1@3;c1@4;c1@7;c1@8", 0, "33133");
        // Whatever was asked before, and for whom.
        for (String first : new String[] {"step 0 0", "step 1 0", "fewest 1", "fewestAgain 0", "fewestAgain 1",
            "wouldTread 0 111111123"}) {
            stepsAre("n9;n9;c1@2;c1@8|" + first, 0, "23333");
            stepsAre("n9;n9;c1@2;c1@8|" + first, 1, "3333");
        }
        stepsAre("n9;n99" + ROW, 0, "3333");
        stepsAre("n9;n99" + ROW + "|c1@11", 0, "3333");
        stepsAre("n9;n99" + ROW + "|c1@11", 1, "3333");
    }

    private static void stepsAre(String before, int child, String due) {
        for (int place = 0; place < due.length(); place++) {
            tells(before, "step " + child + " " + place, due.charAt(place));
        }
        for (String wrong : new String[] {"MIN", "-1", "" + due.length(), "12", "13", "MAX"}) {
            tells(before, "step " + child + " " + wrong, NO_ELEMENT);
        }
    }

    @Says(promise = 16, value = {"child: the child", "Throws IndexOutOfBoundsException if there is no such child"})
    static void noChildForAStep() {
        noChild("", 0, "step # 0");
        noChild("n9", 1, "step # 0");
        noChild("n9", 1, "step # -1");
        noChild(FIVE, 5, "step # 3");
        tells(FIVE, "step 4 3", 3);
        tells(FIVE, "step 4 4", NO_ELEMENT);
    }

    @Says(promise = 17, value = {"Returns on how many lines a child would tread with some steps, warrant or not.",
        "Returns on how many."})
    static void linesOfSomeSteps() {
        tells(LINES, "wouldTread 1 23333", 0);
        tells(LINES, "wouldTread 1 32333", 1);
        tells(LINES, "wouldTread 1 3333", 4);
        tells(LINES, "wouldTread 0 3333", 0);
        tells(WANTED, "wouldTread 1 3333", 4);
        tells(WANTED + "|r3", "wouldTread 1 3333", 4);
        tells(WANTED + "|r4", "wouldTread 1 3333", 0);
        tells("n99;n9" + ALL, "wouldTread 1 111111123", 9);
        tells("n99;n9" + ALL, "wouldTread 1 3333", 4);
        tells("n99;n9" + ALL, "wouldTread 1 33323", 4);
        tells("n9;n9;c0@0;c0@11", "wouldTread 1 13333", 1);
        tells("n9;n9;c0@0;c0@11", "wouldTread 1 13332", 2);
    }

    @Says(promise = 17, value = {"child: the child", "Throws IndexOutOfBoundsException if there is no such child"})
    static void noChildForSomeSteps() {
        noChild("", 0, "wouldTread # 3333");
        noChild("n9", 1, "wouldTread # 3333");
        noChild("n9", 1, "wouldTread # 0");
        noChild(FIVE, 5, "wouldTread # 3333");
        tells(FIVE, "wouldTread 4 3333", 0);
    }

    @Says(promise = 17, value = {"steps: the steps, as 1 to 9 digits", "Throws IllegalArgumentException if a digit is not "
            + "from 1 to 3, or they do not end on the square 11 or behind it, or go on behind it"})
    static void noSuchSteps() {
        for (String wrong : new String[] {"MIN", "-3333", "-1", "0", "4", "3330", "3334", "3033", "3433", "10333", "40333",
            "333333334", "1000000000", "1111111113", "2133333333", "MAX"}) {
            tells(LINES, "wouldTread 1 " + wrong, NO_ARGUMENT);
        }
        // Ahead of the square 11.
        for (String wrong : new String[] {"1", "3", "333", "3331", "3332", "33311", "111111111", "111111113"}) {
            tells(LINES, "wouldTread 1 " + wrong, NO_ARGUMENT);
        }
        // On it, and behind it.
        for (String right : new String[] {"3333", "33312", "33321", "33322", "33323", "111111123", "111111132", "111111133"}) {
            Check.same(right, false, call(after(LINES), "wouldTread 1 " + right).startsWith("throws"));
        }
        tells(LINES, "wouldTread 1 33312", 4);
        tells(LINES, "wouldTread 1 33322", 3);
        tells(LINES, "wouldTread 1 33323", 3);
        // On behind it.
        for (String wrong : new String[] {"33331", "33333", "333211", "333221", "333231", "111111331", "333333333"}) {
            tells(LINES, "wouldTread 1 " + wrong, NO_ARGUMENT);
        }
    }

    @Says(promise = 18, value = {"Returns how many squares, one behind the other, a child owns at most.", "Returns how many."})
    static void longestRun() {
        tells("n9", "longest 0", 0);
        tells("n9;c0@0", "longest 0", 1);
        tells("n9;c0@11", "longest 0", 1);
        tells("n9;c0@0;c0@1", "longest 0", 2);
        tells("n9;c0@10;c0@11", "longest 0", 2);
        tells("n9;c0@11;c0@0", "longest 0", 1);
        tells("n9;n9;c0@3;c0@4;c1@5;c0@6", "longest 0", 2);
        tells("n9;n9;c0@3;c1@4;c0@5;c0@6", "longest 0", 2);
        tells("n9;n9;c0@3;c1@4;c0@5;c0@6", "longest 1", 1);
        tells("n99|c0@0;c0@1;c0@2;c0@3;c0@4;c0@5;c0@6;c0@7;c0@8;c0@9;c0@10", "longest 0", 11);
        tells("n99" + ALL, "longest 0", 12);
        tells("n9;c0@4;c0@5;c0@6;r4;c0@4;c0@6;r1", "longest 0", 1);
    }

    @Says(promise = 18, value = {"child: the child", "Throws IndexOutOfBoundsException if there is no such child"})
    static void noChildForTheLongestRun() {
        noChild("", 0, "longest #");
        noChild("n9;c0@0", 1, "longest #");
        noChild(FIVE, 5, "longest #");
        tells(FIVE + ";c4@0", "longest 4", 1);
    }

    @Says(promise = 19, value = {"Returns how many squares, one behind the other, are free at most.", "Returns how many."})
    static void greatestGap() {
        tells("", "gap", 12);
        tells("n9;c0@0", "gap", 11);
        tells("n9;c0@11", "gap", 11);
        tells("n9;c0@1", "gap", 10);
        tells("n9;c0@0;c0@11", "gap", 10);
        tells("n9;n9;c0@4;c1@7", "gap", 4);
        tells("n9;n9;c0@3;c1@8", "gap", 4);
        tells("n9;n99" + ROW, "gap", 1);
        tells("n9;n99" + ROW + "|c0@11", "gap", 0);
        tells("n99" + ALL, "gap", 0);
        tells("n99" + ALL + "|r4", "gap", 0);
        tells("n99" + ALL + "|r5", "gap", 12);
    }

    @Says(promise = 20, value = {"Returns how many squares would get free, and warrants be ended, by rain.", "rain: how much",
        "Returns how many together.", "Throws IllegalArgumentException if the rain is not from 1 to 9"})
    static void whatRainWouldEnd() {
        for (String wrong : new String[] {"MIN", "-1", "0", "10", "11", "MAX"}) {
            tells("", "wouldEnd " + wrong, NO_ARGUMENT);
            tells(WANTED, "wouldEnd " + wrong, NO_ARGUMENT);
        }
        // With nothing chalked there is nothing to end, and the call is not refused.
        tells("", "wouldEnd 1", 0);
        tells("n9", "wouldEnd 9", 0);
        tells("n9;c0@0", "wouldEnd 1", 0);
        tells("n9;c0@0", "wouldEnd 4", 0);
        tells("n9;c0@0", "wouldEnd 5", 1);
        tells("n9;c0@0", "wouldEnd 6", 1);
        tells("n9;c0@0;c0@0;c0@0", "wouldEnd 8", 0);
        tells("n9;c0@0;c0@0;c0@0", "wouldEnd 9", 1);
        tells("n9;c0@0;r4", "wouldEnd 1", 1);
        tells(WANTED, "wouldEnd 3", 0);
        tells(WANTED, "wouldEnd 4", 5);
        tells(NINE + "|w1", "wouldEnd 1", 0);
        tells(NINE + "|w1", "wouldEnd 2", 1);
        tells(NINE + "|w1", "wouldEnd 3", 4);
        tells(NINE + "|w1", "wouldEnd 8", 4);
        tells(NINE + "|w1", "wouldEnd 9", 5);
        tells(NINE + "|w1;r3", "wouldEnd 5", 0);
        tells(NINE + "|w1;r3", "wouldEnd 6", 1);
        tells("n99" + ALL, "wouldEnd 5", 12);
    }

    @Says(promise = 21, value = {"Returns how much rain would end the warrant against a child.", "Returns how much."})
    static void rainForAWarrant() {
        tells(LINES + "|h1:33323|w1", "rainFor 1", 3);
        tells(WANTED, "rainFor 1", 4);
        tells(WANTED + "|r3", "rainFor 1", 1);
        tells(NINE + "|w1", "rainFor 1", 9);
        tells(NINE + "|w1;r1", "rainFor 1", 8);
        // So much rain ends it, and less does not.
        row(WANTED + "|r1", "rain 2", 0, "s2=0/1 s5=0/1 s8=0/1 s11=0/1 w1=1 undo=5");
        row(WANTED + "|r1", "rain 3", 5, "s2=. s5=. s8=. s11=. w1=0 order=none washed=1 undo=5");
    }

    @Says(promise = 21, value = {"child: the child", "Throws IndexOutOfBoundsException if there is no such child"})
    static void noChildForRain() {
        noChild("", 0, "rainFor #");
        noChild(WANTED, 2, "rainFor #");
        noChild(FIVE, 5, "rainFor #");
        tells(WANTED, "rainFor 0", NO_ELEMENT);
    }

    @Says(promise = 21, value = "Throws NoSuchElementException if there is none")
    static void noWarrantForRain() {
        tells(TROD, "rainFor 1", NO_ELEMENT);
        tells(WANTED, "rainFor 1", 4);
        tells(WANTED + "|undo", "rainFor 1", NO_ELEMENT);
        tells(WANTED + "|s1", "rainFor 1", NO_ELEMENT);
        tells(WANTED + "|r3", "rainFor 1", 1);
        tells(WANTED + "|r4", "rainFor 1", NO_ELEMENT);
    }

    @Says(promise = 22, value = {"Returns which squares of a child would be repossessed if the term was over now.",
        "Returns the set of them."})
    static void squaresThatWouldBeLost() {
        tells("n0", "wouldLose 0", 0);
        tells("n2;c0@3;c0@9", "wouldLose 0", 520);
        tells("n3;c0@3;c0@9", "wouldLose 0", 512);
        tells("n4;c0@3;c0@9", "wouldLose 0", 0);
        tells("n5;c0@3;c0@9", "wouldLose 0", 0);
        tells("n2;c0@0;c0@11", "wouldLose 0", 2049);
        tells("n3;c0@0;c0@11", "wouldLose 0", 2048);
        tells("n12" + ALL, "wouldLose 0", 4095);
        tells("n13" + ALL, "wouldLose 0", 4094);
        tells("n23" + ALL, "wouldLose 0", 2048);
        tells("n24" + ALL, "wouldLose 0", 0);
        // What others pay does not help, as the chest gives later.
        tells("n1;n9;c0@0;c1@1", "wouldLose 0", 1);
        tells("n1;n9;c0@0;c1@1", "wouldLose 1", 0);
        tells("n9;n1;c0@0;c1@1", "wouldLose 1", 2);
        row("n3;c0@3;c0@9", "term", 1, "s9=. lost=1 terms=1 undo=2");
    }

    @Says(promise = 22, value = {"child: the child", "Throws IndexOutOfBoundsException if there is no such child"})
    static void noChildForALoss() {
        noChild("", 0, "wouldLose #");
        noChild("n1;c0@0", 1, "wouldLose #");
        noChild(FIVE, 5, "wouldLose #");
        tells("n1;n2;n3;n4;n1;c4@0", "wouldLose 4", 1);
    }

    @Says(promise = 23, value = {"Returns by which term from now on a square of a child would be repossessed, if nothing else "
            + "was done.", "Returns by which, 1 for the next one."})
    static void termsUntilALoss() {
        tells("n2;c0@0;c0@1", "termsFor 0", 1);
        tells("n3;c0@0;c0@1", "termsFor 0", 1);
        tells("n4;c0@0;c0@1", "termsFor 0", 2);
        tells("n5;c0@0;c0@1", "termsFor 0", 3);
        row("n5;c0@0;c0@1|term|term", "term", 1, "s1=. lost=1 terms=3 undo=4");
        // From now on, not from the first term on.
        tells("n5;c0@0;c0@1|term", "termsFor 0", 2);
        tells("n5;c0@0;c0@1|term|term", "termsFor 0", 1);
        // A square that another child loses is none of its own.
        tells("n1;n9;c0@0;c1@1", "termsFor 0", 1);
        tells("n1;n5;c0@0;c1@1;c1@2", "termsFor 1", 3);
    }

    @Says(promise = 23, value = {"child: the child", "Throws IndexOutOfBoundsException if there is no such child"})
    static void noChildForTerms() {
        noChild("", 0, "termsFor #");
        noChild("n1;c0@0", 1, "termsFor #");
        noChild(FIVE, 5, "termsFor #");
        tells("n1;n2;n3;n4;n1;c4@0", "termsFor 4", 1);
    }

    @Says(promise = 23, value = "Throws NoSuchElementException if it would not be in 40 terms")
    static void fortyTerms() {
        // Two squares cost a pebble each term, as the chest gives one back.
        tells("n41;c0@0;c0@1", "termsFor 0", 39);
        tells("n42;c0@0;c0@1", "termsFor 0", 40);
        tells("n43;c0@0;c0@1", "termsFor 0", NO_ELEMENT);
        tells("n43;c0@0;c0@1|term", "termsFor 0", 40);
        tells("n99;c0@0;c0@1", "termsFor 0", NO_ELEMENT);
        tells("n0", "termsFor 0", NO_ELEMENT);
        tells("n2;c0@0", "termsFor 0", NO_ELEMENT);
        tells("n1;c0@0", "termsFor 0", 1);
        tells("n1;n9;c0@0", "termsFor 1", NO_ELEMENT);
    }

    @Says(promise = 24, value = {"Returns a child by a measure: the greatest first, of several the lowest.",
        "measure: 0 for the pebbles, 1 for the own squares, 2 for the treads, 3 for the chalk of the warrant",
        "Returns the child."})
    static void order() {
        rankedAre("n0", 0, "0");
        rankedAre("n5;n5;n5;n5;n5", 0, "01234");
        rankedAre("n5;n5;n6;n5;n5", 0, "20134");
        rankedAre("n5;n5;n4;n5;n5", 0, "01342");
        rankedAre(FIVE, 0, "43210");
        rankedAre("n9;n9;n9", 1, "012");
        rankedAre("n9;n9;n9;c2@0;c1@1;c2@2", 1, "210");
        rankedAre("n9;n9;n9;c2@0;c1@1", 1, "120");
        rankedAre(LINES, 2, "01");
        rankedAre(TROD, 2, "10");
        rankedAre(THREE, 2, "1230");
        rankedAre(WANTED, 2, "01");
        rankedAre(WANTED, 3, "10");
        rankedAre(TROD, 3, "01");
        rankedAre(THREE + "|h3:3333|w1;w3", 3, "3102");
        rankedAre(THREE + "|h3:3333|w1;w3", 2, "2013");
    }

    private static void rankedAre(String before, int measure, String due) {
        for (int place = 0; place < due.length(); place++) {
            tells(before, "ranked " + measure + " " + place, due.charAt(place));
        }
    }

    @Says(promise = 24, value = "Throws IllegalArgumentException if there is no such measure")
    static void noSuchMeasure() {
        for (String wrong : new String[] {"MIN", "-1", "4", "5", "MAX"}) {
            tells(FIVE, "ranked " + wrong + " 0", NO_ARGUMENT);
            tells(FIVE, "ranked " + wrong + " 5", NO_ARGUMENT);
            tells("", "ranked " + wrong + " 0", NO_ARGUMENT);
        }
        tells(FIVE, "ranked 0 0", 4);
        tells(FIVE, "ranked 1 0", 0);
        tells(FIVE, "ranked 2 0", 0);
        tells(FIVE, "ranked 3 0", 0);
    }

    @Says(promise = 24, value = {"place: the place in this order, from 0",
        "Throws NoSuchElementException if there is no such place"})
    static void noSuchPlace() {
        for (String measure : new String[] {"0", "1", "2", "3"}) {
            for (String wrong : new String[] {"MIN", "-1", "5", "6", "MAX"}) {
                tells(FIVE, "ranked " + measure + " " + wrong, NO_ELEMENT);
            }
            tells("", "ranked " + measure + " 0", NO_ELEMENT);
            tells("n9", "ranked " + measure + " 0", 0);
            tells("n9", "ranked " + measure + " 1", NO_ELEMENT);
            tells("n9|undo", "ranked " + measure + " 0", NO_ELEMENT);
        }
        tells(FIVE, "ranked 0 4", 0);
        tells(FIVE, "ranked 1 4", 4);
    }

    @Says(promise = 25, value = {"Returns whether the pebbles that were brought so far are those of the children and those in "
            + "the chest, and each square has chalk just if it is owned.", "Returns whether this is so."})
    static void even() {
        for (String before : new String[] {"", "n0", "n99;n99;n99;n99;n99", LINES, TROD, WANTED, WANTED + "|s1",
            WANTED + "|r3", WANTED + "|r4", "n1;c0@0;t", "n2;c0@0;t", "n12" + ALL + "|t", "n99" + ALL + "|r5",
            "n99;n99;g0>1*99", "n9|undo", "n9|save|n9|restore", "n9;c0@0|save|n9;c0@1|restore|c0@2|undo",
            "n9|?child 100", "n9|~n5;c2@0|?commands", "n9;n9;c0@2;r4;h1:3333"}) {
            tells(before, "isEven", true);
        }
    }

    @Says(promise = 33, value = {"Returns the mean chalk of the squares that are owned: the sum divided by their number, both "
            + "as doubles.", "Returns the mean.", "Throws ArithmeticException if there are none"})
    static void meanOfTheChalk() {
        tells("", "meanChalk", NO_MEAN);
        tells("n9", "meanChalk", NO_MEAN);
        tells("n9;c0@0", "meanChalk", 5.0);
        tells("n9;c0@0;r4", "meanChalk", 1.0);
        tells("n9;c0@0;r5", "meanChalk", NO_MEAN);
        tells("n9;c0@11;c0@11;c0@11", "meanChalk", 9.0);
        tells("n9;c0@0;r1;c0@11", "meanChalk", 4.5);
        tells("n9;n9;c0@0;c0@0;c1@1;c1@2", "meanChalk", 17.0 / 3.0);
        tells("n99" + ALL, "meanChalk", 5.0);
        tells("n99" + ALL + "|c0@0", "meanChalk", 62.0 / 12.0);
        tells(NINE + "|w1;r3", "meanChalk", NO_MEAN);
    }

    @Says(promise = 34, value = {"Returns what part of the squares is owned, both numbers as floats.", "Returns the part."})
    static void partOfTheSquares() {
        tells("", "ownedShare", 0.0f);
        tells("n9;c0@0", "ownedShare", 1.0f / 12.0f);
        tells("n9;c0@0;r5", "ownedShare", 0.0f);
        tells("n9;n9;c0@0;c1@11", "ownedShare", 2.0f / 12.0f);
        tells(LINES, "ownedShare", 4.0f / 12.0f);
        tells("n9;n99" + ROW, "ownedShare", 11.0f / 12.0f);
        tells("n9;n99" + ROW + "|c0@11", "ownedShare", 1.0f);
    }

    @Says(promise = 35, value = {"Returns an account.", "what: 0 for the children, 1 for their pebbles together, 2 for the "
            + "pebbles in the chest, 3 for the squares owned, 4 for the warrants, 5 for the treads so far, 6 for the "
            + "warrants written so far, 7 for those ended by rain so far, 8 for the squares repossessed so far, 9 for the "
            + "terms so far, 10 for the changes that can be undone, 11 for the characters in the text buffer",
        "Returns the account."})
    static void accounts() {
        accountsAre("", 0, 0, 0, 0, 0, 0, 0, 0, 0, 0, 0, 0);
        accountsAre("n0", 1, 0, 0, 0, 0, 0, 0, 0, 0, 0, 1, 0);
        accountsAre("n99;n99;n99;n99;n99", 5, 495, 0, 0, 0, 0, 0, 0, 0, 0, 1, 0);
        accountsAre(LINES, 2, 14, 4, 4, 0, 0, 0, 0, 0, 0, 1, 0);
        accountsAre(TROD, 2, 14, 4, 4, 0, 4, 0, 0, 0, 0, 2, 0);
        accountsAre(WANTED, 2, 14, 4, 4, 1, 4, 1, 0, 0, 0, 3, 0);
        accountsAre(WANTED + "|r3", 2, 14, 4, 4, 1, 4, 1, 0, 0, 0, 4, 0);
        accountsAre(WANTED + "|r4", 2, 14, 4, 0, 0, 4, 1, 1, 0, 0, 4, 0);
        // A struck warrant was not ended by rain, nor was a square that rain frees repossessed.
        accountsAre(WANTED + "|s1", 2, 10, 8, 4, 0, 4, 1, 0, 0, 0, 4, 0);
        accountsAre("n3;c0@1;c0@8|t", 1, 1, 2, 1, 0, 0, 0, 0, 1, 1, 2, 0);
        accountsAre("n4;c0@1;c0@8|t", 1, 1, 3, 2, 0, 0, 0, 0, 0, 1, 2, 0);
        accountsAre("n99" + ALL, 1, 87, 12, 12, 0, 0, 0, 0, 0, 0, 3, 0);
        accountsAre(NINE + "|h1:32333|w1", 2, 14, 4, 4, 1, 10, 1, 0, 0, 0, 4, 0);
        accountsAre("n9|t|t|t|t|t|t|t|t|~t", 1, 9, 0, 0, 0, 0, 0, 0, 0, 8, 8, 1);
        accountsAre("n9|~" + "t;".repeat(30), 1, 9, 0, 0, 0, 0, 0, 0, 0, 0, 1, 60);
    }

    private static void accountsAre(String before, int... due) {
        for (int what = 0; what < 12; what++) {
            tells(before, "account " + what, due[what]);
        }
    }

    @Says(promise = 35, value = "Throws IllegalArgumentException if what is not from 0 to 11")
    static void noSuchAccount() {
        for (String wrong : new String[] {"MIN", "-1", "12", "13", "MAX"}) {
            tells("", "account " + wrong, NO_ARGUMENT);
            tells(WANTED, "account " + wrong, NO_ARGUMENT);
        }
        tells(WANTED + "|~t;", "account 0", 2);
        tells(WANTED + "|~t;", "account 1", 14);
        tells(WANTED + "|~t;", "account 10", 3);
        tells(WANTED + "|~t;", "account 11", 2);
    }
}
