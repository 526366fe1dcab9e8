/** The boundaries that the sentences under Terms name, from the yard to the rules of texts. */
public final class EdgesOfTermsTest extends Edges {
    private static final String ALL_FREE = "s2=. s5=. s8=. s11=.";

    public static void main(String[] args) throws ReflectiveOperationException {
        run(EdgesOfTermsTest.class);
    }

    @Says("An object is used for at most 512 calls after it has been made;")
    static void lastCalls() {
        ChalkWarrants x = new ChalkWarrants();
        for (int calls = 1; calls <= 510; calls++) {
            call(x, calls == 1 ? "child 9" : "term");
        }
        Check.same("the 511th call", 509, x.account(9));
        Check.same("the 512th call", 7, x.undo());
    }

    @Says("Rain ends what was chalked.")
    static void rainEnds() {
        row("n9;c0@0", "rain 4", 0, "s0=0/1 undo=2");
        row("n9;c0@0", "rain 5", 1, "s0=. undo=2");
        row("n9;c0@0", "rain 6", 1, "s0=. undo=2");
        row(WANTED, "rain 3", 0, "s2=0/1 s5=0/1 s8=0/1 s11=0/1 w1=1 undo=4");
        row(WANTED, "rain 4", 5, ALL_FREE + " w1=0 order=none washed=1 undo=4");
        row(WANTED, "rain 5", 5, ALL_FREE + " w1=0 order=none washed=1 undo=4");
    }

    @Says("Divisions are rounded down, unless something else is told.")
    static void nothingIsRounded() {
        tells("n9;c0@0;c0@1", "meanChalk", 5.0);
        tells("n9;c0@0;r1;c0@1", "meanChalk", 4.5);
        tells("n9;c0@0;c0@0;c0@1", "meanChalk", 6.0);
        tells("n9;c0@0;c0@1;c0@1;c0@2", "meanChalk", 17.0 / 3.0);
        tells("n9;c0@0", "ownedShare", 1.0f / 12.0f);
        tells("n99" + ALL, "ownedShare", 1.0f);
    }

    @Says("The yard has the squares 0 to 11 in a row.")
    static void twelveSquares() {
        for (String square : new String[] {"MIN", "-1", "12", "MAX"}) {
            tells("n9", "squareOf " + square + " true", NO_INDEX);
            tells("n9", "squareOf " + square + " false", NO_INDEX);
            refused("n9", "chalk 0 " + square, "1 0 0");
        }
        for (int square = 0; square < 12; square++) {
            tells("n9", "squareOf " + square + " true", 0);
            tells("n9", "squareOf " + square + " false", -1);
            row("n9", "chalk 0 " + square, 5, "s" + square + "=0/5 p0=8 chest=1 undo=2");
        }
        // The squares 11 and 0 are no neighbours.
        tells("n9;c0@0;c0@11", "longest 0", 1);
        tells("n9;c0@5", "gap", 6);
        tells("n9;c0@6", "gap", 6);
    }

    @Says("A square is owned by a child and has chalk from 1 to 9, or it is free and has none, as at first.")
    static void leastAndMostChalk() {
        for (int square = 0; square < 12; square++) {
            tells("", "squareOf " + square + " true", 0);
            tells("", "squareOf " + square + " false", -1);
        }
        tells("n9;c0@3;r3", "squareOf 3 true", 2);
        tells("n9;c0@3;r4", "squareOf 3 true", 1);
        tells("n9;c0@3;r4", "squareOf 3 false", 0);
        tells("n9;c0@3;r5", "squareOf 3 true", 0);
        tells("n9;c0@3;r5", "squareOf 3 false", -1);
        tells("n9;c0@3;c0@3;c0@3;r1", "squareOf 3 true", 8);
        tells("n9;c0@3;c0@3;c0@3", "squareOf 3 true", 9);
        refused("n9;c0@3;c0@3;c0@3", "chalk 0 3", "6 3 0");
    }

    @Says("At most 5 children are there, numbered from 0 in the order in which they came, each with pebbles.")
    static void fiveChildren() {
        row("", "child 7", 0, "p0=7 children=1 undo=1");
        row("n1", "child 7", 1, "p1=7 children=2 undo=2");
        row("n1;n2", "child 7", 2, "p2=7 children=3 undo=2");
        row("n1;n2;n3", "child 7", 3, "p3=7 children=4 undo=2");
        row("n1;n2;n3;n4", "child 7", 4, "p4=7 children=5 undo=2");
        refused(FIVE, "child 7", "2 5 0");
        for (int child = 0; child < 5; child++) {
            tells(FIVE, "childOf " + child + " 0", child + 1);
        }
        noChild(FIVE, 5, "childOf # 0");
    }

    @Says("A child can chalk a square that is free, for a pebble: the child owns it then, with chalk 5.")
    static void chalkAFreeSquare() {
        refused("n0", "chalk 0 4", "5 1 0");
        row("n1", "chalk 0 4", 5, "s4=0/5 p0=0 chest=1 undo=2");
        row("n2", "chalk 0 4", 5, "s4=0/5 p0=1 chest=1 undo=2");
        refused("n2;n2;c1@4;r4", "chalk 0 4", "4 1 0");
        row("n2;n2;c1@4;r5", "chalk 0 4", 5, "s4=0/5 p0=1 chest=2 undo=2");
        row("n2;n2;c1@4;r5", "chalk 1 4", 5, "s4=1/5 p1=0 chest=2 undo=2");
    }

    @Says("An own square can be chalked anew for a pebble, up to chalk 9: its chalk becomes 2 more, but not above 9.")
    static void chalkAnew() {
        row("n9;c0@4;r4", "chalk 0 4", 3, "s4=0/3 p0=7 chest=2 undo=2");
        row("n9;c0@4;c0@4;r1", "chalk 0 4", 8, "s4=0/8 p0=6 chest=3 undo=2");
        row("n9;c0@4;c0@4", "chalk 0 4", 9, "s4=0/9 p0=6 chest=3 undo=2");
        row("n9;c0@4;c0@4;c0@4;r1", "chalk 0 4", 9, "s4=0/9 p0=5 chest=4 undo=2");
        refused("n9;c0@4;c0@4;c0@4", "chalk 0 4", "6 4 0");
        refused("n1;c0@4", "chalk 0 4", "5 1 0");
        row("n2;c0@4", "chalk 0 4", 7, "s4=0/7 p0=0 chest=2 undo=2");
    }

    @Says("A hop of a child begins ahead of the square 0, and goes on by steps of 1, 2 or 3 squares, until it is on the "
            + "square 11 or behind it.")
    static void whereAHopBeginsAndEnds() {
        String first = "n9;n9;c0@0;c0@1;c0@2;c0@3";
        row(first, "hop 1 13333", 2, "s0=0/4 s3=0/4 o0=2 t1=2 h1=1 treads=2 undo=2");
        row(first, "hop 1 23333", 1, "s1=0/4 o0=1 t1=1 h1=1 treads=1 undo=2");
        row(first, "hop 1 33333", REFUSED, "reason=8 12 0");
        row(first, "hop 1 3333", 1, "s2=0/4 o0=1 t1=1 h1=1 treads=1 undo=2");
        refused(LINES, "hop 1 3330", "1 0 0");
        refused(LINES, "hop 1 3334", "1 0 0");
        refused(LINES, "hop 1 333", "8 8 0");
        refused(LINES, "hop 1 4333", "1 0 0");
        refused(LINES, "hop 1 33311", "8 10 0");
        row(LINES, "hop 1 33312", 4, "s2=0/4 s5=0/4 s8=0/4 s11=0/4 o0=4 t1=4 h1=1 treads=4 undo=2");
        row(LINES, "hop 1 33322", 3, "s2=0/4 s5=0/4 s8=0/4 o0=3 t1=3 h1=1 treads=3 undo=2");
        row(LINES, "hop 1 33323", 3, "s2=0/4 s5=0/4 s8=0/4 o0=3 t1=3 h1=1 treads=3 undo=2");
        refused(LINES, "hop 1 333121", "8 12 0");
        refused(LINES, "hop 1 333221", "8 12 0");
        refused(LINES, "hop 1 333231", "8 12 0");
    }

    @Says("The squares on which it lands are those that are reached, up to 11.")
    static void theLastSquareOfAHop() {
        String last = "n9;n9;c0@0;c0@1;c0@9;c0@10;c0@11";
        row(last, "hop 1 33321", 2, "s10=0/4 s11=0/4 o0=2 t1=2 h1=1 treads=2 undo=2");
        row(last, "hop 1 33322", 1, "s10=0/4 o0=1 t1=1 h1=1 treads=1 undo=2");
        row(last, "hop 1 33323", 1, "s10=0/4 o0=1 t1=1 h1=1 treads=1 undo=2");
        row(last, "hop 1 33313", 1, "s9=0/4 o0=1 t1=1 h1=1 treads=1 undo=2");
        row(last, "hop 1 3333", 1, "s11=0/4 o0=1 t1=1 h1=1 treads=1 undo=2");
    }

    @Says({"Who lands on a square that another child owns treads on its line: the square loses 1 chalk, and is free if "
            + "none is left, and the child has one tread more.",
        "A square that gets free on a hop is trodden on all the same."})
    static void treadOnTheLastChalk() {
        row("n9;n9;c0@2;r3", "hop 1 3333", 1, "s2=0/1 o0=1 t1=1 h1=1 treads=1 undo=2");
        row("n9;n9;c0@2;r4", "hop 1 3333", 1, "s2=. o0=1 t1=1 h1=1 treads=1 undo=2");
        row("n9;n9;c0@2;r5", "hop 1 3333", 0, "h1=1 undo=2");
        row("n9;n9;c0@2;r4", "hop 0 3333", 0, "h0=1 undo=2");
        row("n9;n9;c0@2;c0@5;r4", "hop 1 3333", 2, "s2=. s5=. o0=2 t1=2 h1=1 treads=2 undo=2");
        row("n9;n9;c0@2;c0@2;c0@2", "hop 1 3333", 1, "s2=0/8 o0=1 t1=1 h1=1 treads=1 undo=2");
        row(TROD, "hop 1 32333", 1, "s2=0/3 o0=5 t1=5 h1=2 treads=5 undo=3");
        row("n9;n9;n9;c0@2;c1@5", "hop 2 3333", 2, "s2=0/4 s5=1/4 o0=1 o1=1 t2=2 h2=1 treads=2 undo=2");
    }

    @Says("A child against whom there is a warrant cannot hop.")
    static void wantedChild() {
        row(TROD, "hop 1 23333", 0, "h1=2 undo=3");
        refused(WANTED, "hop 1 23333", "7 4 0");
        refused(WANTED + "|r3", "hop 1 23333", "7 1 0");
        row(WANTED + "|r4", "hop 1 3333", 0, "h1=2 undo=5");
        row(WANTED + "|s1", "hop 1 23333", 0, "h1=2 undo=5");
        row(WANTED, "hop 0 3333", 0, "h0=1 undo=4");
    }

    @Says("A magistrate writes a warrant against a child with 3 treads or more, against whom there is none: its chalk is "
            + "as many as the treads, but 9 at most, and the child has no treads then.")
    static void leastAndMostTreads() {
        refused(LINES, "warrant 1", "9 0 0");
        refused(LINES + "|h1:32333", "warrant 1", "9 1 0");
        refused(LINES + "|h1:33233", "warrant 1", "9 2 0");
        row(LINES + "|h1:33323", "warrant 1", 3, "t1=0 w1=3 order=1 written=1 undo=3");
        row(LINES + "|h1:3333", "warrant 1", 4, "t1=0 w1=4 order=1 written=1 undo=3");
        row(LINES + "|h1:3333;h1:3333", "warrant 1", 8, "t1=0 w1=8 order=1 written=1 undo=3");
        row(NINE, "warrant 1", 9, "t1=0 w1=9 order=1 written=1 undo=3");
        row(NINE + "|h1:32333", "warrant 1", 9, "t1=0 w1=9 order=1 written=1 undo=4");
        row(NINE + "|h1:33323", "warrant 1", 9, "t1=0 w1=9 order=1 written=1 undo=4");
        refused(WANTED, "warrant 1", "7 4 0");
        refused(WANTED + "|r3", "warrant 1", "7 1 0");
        refused(WANTED + "|r4", "warrant 1", "9 0 0");
    }

    @Says("Warrants stand in the order in which they were written.")
    static void orderOfWarrants() {
        row(THREE, "warrant 3", 3, "t3=0 w3=3 order=3 written=1 undo=3");
        row(THREE + "|w2;w1", "warrant 3", 3, "t3=0 w3=3 order=2,1,3 written=3 undo=4");
        row(THREE + "|w2;w1;w3", "strike 2", 6, "p2=6 w2=0 order=1,3 chest=6 undo=4");
        row(THREE + "|w2;w1;w3", "strike 1", 6, "p1=6 w1=0 order=2,3 chest=6 undo=4");
        row(THREE + "|w2;w1;w3", "strike 3", 6, "p3=6 w3=0 order=2,1 chest=6 undo=4");
        row(THREE + "|w2;w1;w3|s2", "strike 1", 6, "p1=6 w1=0 order=3 chest=9 undo=5");
        row(THREE + "|w2;w1;w3|s2;s1", "strike 3", 6, "p3=6 w3=0 order=none chest=12 undo=5");
        row(THREE + "|w2", "strike 2", 6, "p2=6 w2=0 order=none chest=6 undo=4");
        row(THREE + "|w2;w1;w3|s2;h2:3333", "warrant 2", 3, "t2=0 w2=3 order=1,3,2 written=4 undo=5");
        row(THREE + "|h1:3333;h3:3333|w1;w2;w3", "rain 3", 1, "w1=3 w2=0 w3=3 order=1,3 washed=1 undo=5");
    }

    @Says("The child can strike it for as many pebbles as it has chalk.")
    static void pebblesForAStrike() {
        String lines = ";c0@2;c0@5;c0@8;c0@11|h1:3333|w1";
        refused("n9;n0" + lines, "strike 1", "5 4 0");
        refused("n9;n3" + lines, "strike 1", "5 1 0");
        row("n9;n4" + lines, "strike 1", 0, "p1=0 w1=0 order=none chest=8 undo=4");
        row("n9;n5" + lines, "strike 1", 1, "p1=1 w1=0 order=none chest=8 undo=4");
        row("n9;n1" + lines + "|r3", "strike 1", 0, "p1=0 w1=0 order=none chest=5 undo=5");
        refused("n9;n0" + lines + "|r3", "strike 1", "5 1 0");
    }

    @Says("Rain takes as much chalk as is told from each square and each warrant.")
    static void leastAndMostRain() {
        refused(WANTED, "rain 0", "1 0 0");
        row(WANTED, "rain 1", 0, "s2=0/3 s5=0/3 s8=0/3 s11=0/3 w1=3 undo=4");
        row(NINE + "|w1", "rain 1", 0, "s2=0/1 s5=0/2 s8=0/2 s11=0/2 w1=8 undo=4");
        row(NINE + "|w1", "rain 2", 1, "s2=. s5=0/1 s8=0/1 s11=0/1 w1=7 undo=4");
        row(NINE + "|w1", "rain 3", 4, ALL_FREE + " w1=6 undo=4");
        row(NINE + "|w1", "rain 8", 4, ALL_FREE + " w1=1 undo=4");
        row(NINE + "|w1", "rain 9", 5, ALL_FREE + " w1=0 order=none washed=1 undo=4");
        refused(NINE + "|w1", "rain 10", "1 0 0");
        row("n9;c0@0;c0@0;c0@0", "rain 8", 0, "s0=0/1 undo=2");
        row("n9;c0@0;c0@0;c0@0", "rain 9", 1, "s0=. undo=2");
        row("n9;c0@0;c0@11", "rain 5", 2, "s0=. s11=. undo=2");
        // From each warrant once, be they as many as there can be, or fewer than there were.
        row("n9;n9;n9;n9;n9;c0@2;c0@5;c0@8;c1@11;c1@10;c1@9|h1:3333;h2:3333;h3:3333;h4:3333;h0:333111|w4;w3;w2;w1;w0",
                "rain 1", 4, "s2=. s5=. s8=. s9=1/3 s10=1/3 s11=. w0=2 w1=2 w2=3 w3=3 w4=3 undo=4");
        row(THREE + "|w2;w1;w3|s2", "rain 1", 0, "s2=0/1 s5=0/1 s8=0/1 w1=2 w3=2 undo=5");
    }

    @Says("A square without chalk is free;")
    static void squareWithoutChalk() {
        tells("n9;c0@7;r4", "squareOf 7 false", 0);
        tells("n9;c0@7;r5", "squareOf 7 false", -1);
        tells("n9;n9;c0@7;r4;h1:22233", "squareOf 7 false", 0);
        tells("n9;n9;c0@8;r3;h1:3333", "squareOf 8 false", 0);
        tells("n9;n9;c0@8;r4;h1:3333", "squareOf 8 false", -1);
        tells("n9;n9;c0@8;r4;h1:3333", "squareOf 8 true", 0);
        refused("n9;n9;c0@8;r4", "chalk 1 8", "4 0 0");
        row("n9;n9;c0@8;r4;h1:3333", "chalk 1 8", 5, "s8=1/5 p1=8 chest=2 undo=2");
    }

    @Says("a warrant without chalk is ended.")
    static void warrantWithoutChalk() {
        tells(WANTED + "|r3", "rainFor 1", 1);
        tells(WANTED + "|r4", "rainFor 1", NO_ELEMENT);
        tells(WANTED + "|r3", "warrantAt 0", 1);
        tells(WANTED + "|r4", "warrantAt 0", NO_ELEMENT);
        refused(WANTED + "|r3", "hop 1 3333", "7 1 0");
        refused(WANTED + "|r4", "strike 1", "10 0 0");
        row(WANTED + "|r3", "strike 1", 8, "p1=8 w1=0 order=none chest=5 undo=5");
    }

    @Says("When a term is over, each child pays a pebble for each own square, from the lowest number on;")
    static void lowestSquaresFirst() {
        // The child gets back one of what is in the chest.
        row("n2;c0@5;c0@2", "term", 2, "s2=. s5=. p0=1 chest=1 lost=2 terms=1 undo=2");
        row("n3;c0@5;c0@2", "term", 1, "s5=. lost=1 terms=1 undo=2");
        row("n4;c0@5;c0@2", "term", 0, "p0=1 chest=3 terms=1 undo=2");
        row("n5;c0@5;c0@2", "term", 0, "p0=2 chest=3 terms=1 undo=2");
        row("n3;c0@11;c0@0", "term", 1, "s11=. lost=1 terms=1 undo=2");
        row("n9;n1;c1@3;c0@4", "term", 1, "s3=. p1=1 chest=1 lost=1 terms=1 undo=2");
    }

    @Says("each square for which there is no pebble left is repossessed: it is free, and without chalk.")
    static void repossessed() {
        row("n3;c0@4;c0@4;c0@4", "term", 1, "s4=. p0=1 chest=2 lost=1 terms=1 undo=2");
        row("n4;c0@4;c0@4;c0@4", "term", 0, "terms=1 undo=2");
        row("n1;c0@4;r4", "term", 1, "s4=. p0=1 chest=0 lost=1 terms=1 undo=2");
        tells("n3;c0@4;c0@4;c0@4;t", "squareOf 4 true", 0);
        tells("n3;c0@4;c0@4;c0@4;t", "squareOf 4 false", -1);
        row("n3;n1;c0@4;c0@4;c0@4;t", "chalk 1 4", 5, "s4=1/5 p1=1 chest=2 undo=2");
        row("n12" + ALL, "term", 12, "s0=. s1=. s2=. s3=. s4=. s5=. s6=. s7=. s8=. s9=. s10=. s11=. p0=1 chest=11 lost=12"
                + " terms=1 undo=4");
    }

    @Says("The pebbles go into the chest.")
    static void rentsGoIntoTheChest() {
        row("n9", "term", 0, "terms=1 undo=2");
        row("n9;c0@0", "term", 0, "terms=1 undo=2");
        row("n9;c0@0;c0@1", "term", 0, "p0=6 chest=3 terms=1 undo=2");
        row("n9;c0@0;c0@1;c0@2", "term", 0, "p0=4 chest=5 terms=1 undo=2");
        row("n24" + ALL, "term", 0, "p0=1 chest=23 terms=1 undo=4");
    }

    @Says("Then each child gets 1 pebble from the chest, by their numbers, as long as there are some.")
    static void theChestGives() {
        row("n1;n1;n1", "term", 0, "terms=1 undo=2");
        row("n1;n1;n1;c0@0", "term", 1, "s0=. p0=1 chest=0 lost=1 terms=1 undo=2");
        row("n2;n1;n1;c0@0;c0@1", "term", 2, "s0=. s1=. p0=1 p1=2 chest=0 lost=2 terms=1 undo=2");
        row("n3;n1;n1;c0@0;c0@1;c0@2", "term", 3, "s0=. s1=. s2=. p0=1 p1=2 p2=2 chest=0 lost=3 terms=1 undo=2");
        row("n4;n1;n1;c0@0;c0@1;c0@2;c0@3", "term", 4,
                "s0=. s1=. s2=. s3=. p0=1 p1=2 p2=2 chest=1 lost=4 terms=1 undo=2");
        row("n4;n0;n0;n0;n0;c0@0;c0@0;c0@0;c0@1", "term", 2,
                "s0=. s1=. p0=1 p1=1 p2=1 p3=1 chest=0 lost=2 terms=1 undo=2");
        row("n5;n0;n0;n0;n0;c0@0;c0@0;c0@0;c0@1;c0@1", "term", 2,
                "s0=. s1=. p0=1 p1=1 p2=1 p3=1 p4=1 chest=0 lost=2 terms=1 undo=2");
    }

    @Says("Steps are told as the digits of a number, the first step first;")
    static void firstStepFirst() {
        String lines = "n9;n9;c0@0;c0@2;c0@10;c0@11";
        row(lines, "hop 1 13332", 2, "s0=0/4 s11=0/4 o0=2 t1=2 h1=1 treads=2 undo=2");
        row(lines, "hop 1 23331", 2, "s10=0/4 s11=0/4 o0=2 t1=2 h1=1 treads=2 undo=2");
        row(lines, "hop 1 13333", 1, "s0=0/4 o0=1 t1=1 h1=1 treads=1 undo=2");
        row(lines, "hop 1 33321", 3, "s2=0/4 s10=0/4 s11=0/4 o0=3 t1=3 h1=1 treads=3 undo=2");
        tells(lines, "wouldTread 1 13332", 2);
        tells(lines, "wouldTread 1 33321", 3);
        text(lines, "h1:33321", 1, "s2=0/4 s10=0/4 s11=0/4 o0=3 t1=3 h1=1 treads=3 undo=2");
        tells("n9;n9;c1@2", "step 0 0", 2);
        tells("n9;n9;c1@2", "step 0 1", 3);
    }

    @Says("a number with a digit that is not from 1 to 3, or below 0, is out of range.")
    static void digitsOutOfRange() {
        for (String steps : new String[] {"0", "-1", "-3333", "4", "9", "30", "34", "10333", "40333", "3033", "3433", "3330",
            "3334", "3339", "333333330", "333333334", "433333333", "MIN", "MAX"}) {
            refused(LINES, "hop 1 " + steps, "1 0 0");
            tells(LINES, "wouldTread 1 " + steps, NO_ARGUMENT);
        }
        row(LINES, "hop 1 111111111", REFUSED, "reason=8 8 0");
        row(LINES, "hop 1 333333333", REFUSED, "reason=8 12 0");
        row(LINES, "hop 1 3333", 4, "s2=0/4 s5=0/4 s8=0/4 s11=0/4 o0=4 t1=4 h1=1 treads=4 undo=2");
    }

    @Says("A hop is refused as a whole, and treads on nothing then.")
    static void refusedHopTreadsOnNothing() {
        refused(LINES, "hop 1 333", "8 8 0");
        refused(LINES, "hop 1 33333", "8 12 0");
        refused(LINES, "hop 1 3335", "1 0 0");
        refused(WANTED, "hop 1 3333", "7 4 0");
        refusedText(LINES, "h1:333", "8 8 0");
        refusedText(LINES, "h1:3333;h1:33333", "8 12 1");
    }

    @Says("What a strike costs goes into the chest, as does a pebble for chalking.")
    static void strikesAndChalkFillTheChest() {
        row("n1", "chalk 0 0", 5, "s0=0/5 p0=0 chest=1 undo=2");
        row(WANTED, "chalk 0 2", 6, "s2=0/6 p0=4 chest=5 undo=4");
        row(WANTED + "|r3", "strike 1", 8, "p1=8 w1=0 order=none chest=5 undo=5");
        row(WANTED, "strike 1", 5, "p1=5 w1=0 order=none chest=8 undo=4");
        row(NINE + "|w1", "strike 1", 0, "p1=0 w1=0 order=none chest=13 undo=4");
    }

    @Says("Squares and warrants are what is chalked.")
    static void whatIsChalked() {
        refused("n9", "rain 1", "12 0 0");
        row("n9;c0@11", "rain 1", 0, "s11=0/4 undo=2");
        row(NINE + "|w1;r3", "rain 1", 0, "w1=5 undo=4");
        row(NINE + "|w1;r3", "rain 6", 1, "w1=0 order=none washed=1 undo=4");
        refused(NINE + "|w1;r9", "rain 1", "12 0 0");
        refused(NINE + "|r3", "rain 1", "12 0 0");
    }

    @Says("All children pay before the chest gives.")
    static void payFirst() {
        // The first child has no pebble for its square, though the second one fills the chest.
        row("n1;n9;c0@0;c1@1", "term", 1, "s0=. p0=1 chest=1 lost=1 terms=1 undo=2");
        // The second one has none, though the first one would get the chest empty.
        row("n9;n1;c0@0;c1@1", "term", 1, "s1=. p1=1 chest=1 lost=1 terms=1 undo=2");
        // One pebble more, and nothing is lost.
        row("n2;n9;c0@0;c1@1", "term", 0, "terms=1 undo=2");
    }

    @Says("What the chest gives counts for the terms behind.")
    static void giftsPayLater() {
        // The child has no pebble left after paying, and pays the next rent with what the chest gave.
        row("n2;c0@0", "term", 0, "terms=1 undo=2");
        row("n2;c0@0|term", "term", 0, "terms=2 undo=3");
        row("n1;c0@0", "term", 1, "s0=. p0=1 chest=0 lost=1 terms=1 undo=2");
        row("n4;c0@0;c0@1|term", "term", 1, "s1=. lost=1 terms=2 undo=3");
        tells("n4;c0@0;c0@1", "termsFor 0", 2);
        tells("n3;c0@0;c0@1", "termsFor 0", 1);
    }

    @Says("A call that throws an exception leaves the state unchanged, unless stated otherwise.")
    static void whatThrowsChangesNothing() {
        String rich = WANTED + "|n7;h0:3333;t|save|line|?rain 0|~t;w";
        for (String words : new String[] {"squareOf 12 true", "squareOf -1 false", "childOf 3 0", "squares 3", "fewest 3",
            "fewestAgain 3", "step 3 0", "wouldTread 3 3333", "longest 3", "rainFor 3", "wouldLose 3", "termsFor 3",
            "character 31", "character -1"}) {
            tells(rich, words, NO_INDEX);
        }
        for (String words : new String[] {"childOf 0 7", "wouldTread 0 333", "wouldEnd 0", "wouldEnd 10", "ranked 4 0",
            "reason 3", "account 12"}) {
            tells(rich, words, NO_ARGUMENT);
        }
        for (String words : new String[] {"warrantAt 1", "step 0 4", "rainFor 0", "termsFor 2", "ranked 0 3"}) {
            tells(rich, words, NO_ELEMENT);
        }
        tells("n9", "reason 0", NO_ELEMENT);
        tells("n9", "meanChalk", NO_MEAN);
        tells("n9|undo", "undo", NO_STATE);
        tells("n9|~t", "restore", NO_STATE);
        // What is stated otherwise: the reason, and for commands the fault position and the buffer.
        refused(rich, "hop 1 3333", "7 4 0");
        row(rich, "commands", NO_ARGUMENT, "text=0 fault=3");
        row(rich.replace("~t;w", "~t;w1"), "commands", REFUSED, "text=0 reason=7 4 1");
    }

    @Says("If several conditions of a method are fulfilled, the one that is listed first determines the exception.")
    static void theFirstConditionCounts() {
        tells("n9", "childOf 1 7", NO_INDEX);
        tells("n9", "childOf -1 -1", NO_INDEX);
        tells("n9", "childOf 0 7", NO_ARGUMENT);
        tells("n9", "step 1 -1", NO_INDEX);
        tells("n9", "step 0 -1", NO_ELEMENT);
        tells("n9", "wouldTread 1 0", NO_INDEX);
        tells("n9", "wouldTread 0 0", NO_ARGUMENT);
        tells("n9", "rainFor 1", NO_INDEX);
        tells("n9", "rainFor 0", NO_ELEMENT);
        tells("n9", "termsFor 1", NO_INDEX);
        tells("n9", "termsFor 0", NO_ELEMENT);
        tells("n9", "ranked 4 1", NO_ARGUMENT);
        tells("n9", "ranked 3 1", NO_ELEMENT);
        tells("", "reason 3", NO_ARGUMENT);
        tells("", "reason 2", NO_ELEMENT);
        // A text with a fault is not refused, though a command of it would be.
        text("n9", "c0@12;x", NO_ARGUMENT, "fault=6");
        refusedText("n9", "c0@12;t", "1 0 0");
    }
}
