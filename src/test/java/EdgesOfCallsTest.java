/** The boundaries that the promises 1 to 9 name: a new object, and the calls that change the yard. */
public final class EdgesOfCallsTest extends Edges {
    private static final String FREED_BY_RAIN = "s2=. s5=. s8=. s11=.";

    public static void main(String[] args) throws ReflectiveOperationException {
        run(EdgesOfCallsTest.class);
    }

    @Says(promise = 1, value = "Creates a free yard without children.")
    static void newObject() {
        Check.same("all of a new object", "{s0=., s1=., s2=., s3=., s4=., s5=., s6=., s7=., s8=., s9=., s10=., s11=., "
                + "order=none, children=0, chest=0, treads=0, written=0, washed=0, lost=0, terms=0, undo=0, text=0, "
                + "fault=-1, reason=none, line=}", Picture.of(new ChalkWarrants()));
        tells("", "gap", 12);
        tells("", "ownedShare", 0.0f);
        tells("", "meanChalk", NO_MEAN);
        tells("", "isEven", true);
        tells("", "undo", NO_STATE);
        tells("", "restore", NO_STATE);
        tells("", "warrantAt 0", NO_ELEMENT);
        tells("", "ranked 0 0", NO_ELEMENT);
        tells("", "character 0", NO_INDEX);
        tells("", "reason 0", NO_ELEMENT);
        tells("", "wouldEnd 9", 0);
        noChild("", 0, "childOf # 0");
        refusedChild("", 0, "chalk # 0");
        refused("", "term", "13 0 0");
        refused("", "rain 1", "12 0 0");
        row("", "line", 23, "line=. . . . . . . . . . . .");
        // Two objects have nothing in common.
        ChalkWarrants x = after("n9;c0@0|save|line|~t");
        ChalkWarrants y = new ChalkWarrants();
        Check.same("another object", 0, y.account(0) + y.account(3) + y.account(10) + y.account(11));
        Check.same("the first object", "1 1 1 1", x.account(0) + " " + x.account(3) + " " + x.account(10) + " " + x.account(11));
    }

    @Says(promise = 2, value = {"Lets a child come.", "pebbles: its pebbles, 0 to 99"})
    static void pebblesOfAChild() {
        for (String wrong : new String[] {"MIN", "-100", "-1", "100", "101", "MAX"}) {
            refused("", "child " + wrong, "1 0 0");
            refused("n9", "child " + wrong, "1 0 0");
        }
        row("", "child 0", 0, "children=1 undo=1");
        row("", "child 1", 0, "p0=1 children=1 undo=1");
        row("", "child 98", 0, "p0=98 children=1 undo=1");
        row("", "child 99", 0, "p0=99 children=1 undo=1");
        tells("n99;n99;n99;n99;n99", "account 1", 495);
    }

    @Says(promise = 2, value = "Returns its number.")
    static void numberOfAChild() {
        row("", "child 5", 0, "p0=5 children=1 undo=1");
        row("n1", "child 5", 1, "p1=5 children=2 undo=2");
        row("n1;n2;n3;n4", "child 5", 4, "p4=5 children=5 undo=2");
        // The number of a child that was undone is given anew.
        row("n1|n2|undo", "child 5", 1, "p1=5 children=2 undo=2");
        row("n1|save|n2|restore", "child 5", 1, "p1=5 children=2 undo=1");
    }

    @Says(promise = 2, value = "Throws UnsupportedOperationException if it is refused for the reason 1 or 2; the reason is "
            + "kept")
    static void refusedChildren() {
        refused("n1;n2;n3;n4", "child -1", "1 0 0");
        refused("n1;n2;n3;n4", "child 100", "1 0 0");
        refused(FIVE, "child -1", "1 0 0");
        refused(FIVE, "child 0", "2 5 0");
        refused(FIVE, "child 99", "2 5 0");
        refused(FIVE, "child 100", "1 0 0");
        refused(FIVE, "child MIN", "1 0 0");
        refused(FIVE, "child MAX", "1 0 0");
    }

    @Says(promise = 3, value = {"Lets a child chalk a square, or chalk it anew.", "Returns the chalk of the square then."})
    static void chalkOfASquareThen() {
        row("n9", "chalk 0 6", 5, "s6=0/5 p0=8 chest=1 undo=2");
        row("n9;c0@6;r4", "chalk 0 6", 3, "s6=0/3 p0=7 chest=2 undo=2");
        row("n9;c0@6;r3", "chalk 0 6", 4, "s6=0/4 p0=7 chest=2 undo=2");
        row("n9;c0@6", "chalk 0 6", 7, "s6=0/7 p0=7 chest=2 undo=2");
        row("n9;c0@6;c0@6;r1", "chalk 0 6", 8, "s6=0/8 p0=6 chest=3 undo=2");
        row("n9;c0@6;c0@6", "chalk 0 6", 9, "s6=0/9 p0=6 chest=3 undo=2");
        row("n9;c0@6;c0@6;c0@6;r1", "chalk 0 6", 9, "s6=0/9 p0=5 chest=4 undo=2");
        refused("n9;c0@6;c0@6;c0@6", "chalk 0 6", "6 6 0");
        // A child against whom there is a warrant can chalk.
        row(WANTED, "chalk 1 0", 5, "s0=1/5 p1=8 chest=5 undo=4");
    }

    @Says(promise = 3, value = "child: the child")
    static void childOfAChalk() {
        refusedChild("", 0, "chalk # 6");
        refusedChild("n9", 1, "chalk # 6");
        refusedChild(FIVE, 5, "chalk # 6");
        row(FIVE, "chalk 0 6", 5, "s6=0/5 p0=0 chest=1 undo=2");
        row(FIVE, "chalk 4 6", 5, "s6=4/5 p4=4 chest=1 undo=2");
    }

    @Says(promise = 3, value = "square: the square")
    static void squareOfAChalk() {
        for (String wrong : new String[] {"MIN", "-1", "12", "13", "MAX"}) {
            refused("n9", "chalk 0 " + wrong, "1 0 0");
        }
        row("n9", "chalk 0 0", 5, "s0=0/5 p0=8 chest=1 undo=2");
        row("n9", "chalk 0 1", 5, "s1=0/5 p0=8 chest=1 undo=2");
        row("n9", "chalk 0 10", 5, "s10=0/5 p0=8 chest=1 undo=2");
        row("n9", "chalk 0 11", 5, "s11=0/5 p0=8 chest=1 undo=2");
    }

    @Says(promise = 3, value = "Throws UnsupportedOperationException if it is refused for the reason 3, 1, 4, 6 or 5; the "
            + "reason is kept")
    static void refusedChalk() {
        refused("n0;n0", "chalk 2 12", "3 2 0");
        refused("n0;n0", "chalk 1 12", "1 0 0");
        refused("n1;n0;c0@6", "chalk 1 6", "4 0 0");
        refused("n3;n0;c0@6;c0@6;c0@6", "chalk 1 6", "4 0 0");
        refused("n3;n0;c0@6;c0@6;c0@6", "chalk 0 6", "6 6 0");
        refused("n2;n0;c0@6;c0@6", "chalk 0 6", "5 1 0");
        row("n3;n0;c0@6;c0@6", "chalk 0 6", 9, "s6=0/9 p0=0 chest=3 undo=2");
        refused("n0", "chalk 0 6", "5 1 0");
        row("n1", "chalk 0 6", 5, "s6=0/5 p0=0 chest=1 undo=2");
    }

    @Says(promise = 4, value = {"Lets a child hop.", "Returns on how many lines the child trod."})
    static void linesOfAHop() {
        row(LINES, "hop 1 23333", 0, "h1=1 undo=2");
        row(LINES, "hop 1 32333", 1, "s2=0/4 o0=1 t1=1 h1=1 treads=1 undo=2");
        row(LINES, "hop 1 3333", 4, "s2=0/4 s5=0/4 s8=0/4 s11=0/4 o0=4 t1=4 h1=1 treads=4 undo=2");
        row(LINES, "hop 0 3333", 0, "h0=1 undo=2");
        row("n99;n9" + ALL, "hop 1 111111123", 9,
                "s0=0/4 s1=0/4 s2=0/4 s3=0/4 s4=0/4 s5=0/4 s6=0/4 s8=0/4 s11=0/4 o0=9 t1=9 h1=1 treads=9 undo=4");
        text("n99;n9" + ALL, "h1:111111111111", 1, "s0=0/4 s1=0/4 s2=0/4 s3=0/4 s4=0/4 s5=0/4 s6=0/4 s7=0/4 s8=0/4 s9=0/4"
                + " s10=0/4 s11=0/4 o0=12 t1=12 h1=1 treads=12 undo=4");
        row("n99;n9" + ALL, "hop 1 33321", 5, "s2=0/4 s5=0/4 s8=0/4 s10=0/4 s11=0/4 o0=5 t1=5 h1=1 treads=5 undo=4");
        row("n99;n9" + ALL, "hop 1 33323", 4, "s2=0/4 s5=0/4 s8=0/4 s10=0/4 o0=4 t1=4 h1=1 treads=4 undo=4");
        row("n99;n9" + ALL, "hop 0 3333", 0, "h0=1 undo=4");
    }

    @Says(promise = 4, value = "child: the child")
    static void childOfAHop() {
        refusedChild("", 0, "hop # 3333");
        refusedChild("n9", 1, "hop # 3333");
        refusedChild(FIVE, 5, "hop # 3333");
        row(FIVE, "hop 0 3333", 0, "h0=1 undo=2");
        row(FIVE, "hop 4 3333", 0, "h4=1 undo=2");
    }

    @Says(promise = 4, value = "steps: the steps, as 1 to 9 digits")
    static void stepsOfAHop() {
        refused("n9", "hop 0 0", "1 0 0");
        refused("n9", "hop 0 -3", "1 0 0");
        refused("n9", "hop 0 1", "8 0 0");
        refused("n9", "hop 0 2", "8 1 0");
        refused("n9", "hop 0 3", "8 2 0");
        refused("n9", "hop 0 4", "1 0 0");
        refused("n9", "hop 0 11111111", "8 7 0");
        refused("n9", "hop 0 111111111", "8 8 0");
        refused("n9", "hop 0 111111113", "8 10 0");
        row("n9", "hop 0 111111123", 0, "h0=1 undo=2");
        row("n9", "hop 0 111111133", 0, "h0=1 undo=2");
        refused("n9", "hop 0 111111331", "8 12 0");
        refused("n9", "hop 0 333333333", "8 12 0");
        refused("n9", "hop 0 333333334", "1 0 0");
        refused("n9", "hop 0 999999999", "1 0 0");
        // More than 9 digits, also where each of them is from 1 to 3.
        refused("n9", "hop 0 1000000000", "1 0 0");
        refused("n9", "hop 0 1111111111", "1 0 0");
        refused("n9", "hop 0 1111111112", "1 0 0");
        refused("n9", "hop 0 1111111113", "1 0 0");
        refused("n9", "hop 0 2133333333", "1 0 0");
        refused("n9", "hop 0 MAX", "1 0 0");
        refused("n9", "hop 0 MIN", "1 0 0");
    }

    @Says(promise = 4, value = "Throws UnsupportedOperationException if it is refused for the reason 3, 7, 1 or 8; the "
            + "reason is kept")
    static void refusedHop() {
        refused(WANTED, "hop 2 0", "3 2 0");
        refused(WANTED, "hop 2 3", "3 2 0");
        refused(WANTED, "hop 1 0", "7 4 0");
        refused(WANTED, "hop 1 3", "7 4 0");
        refused(WANTED, "hop 1 3333", "7 4 0");
        refused(WANTED, "hop 0 0", "1 0 0");
        refused(WANTED, "hop 0 333334", "1 0 0");
        refused(WANTED, "hop 0 40", "1 0 0");
        refused(WANTED, "hop 0 333", "8 8 0");
        refused(WANTED, "hop 0 33333", "8 12 0");
        row(WANTED, "hop 0 3333", 0, "h0=1 undo=4");
    }

    @Says(promise = 5, value = {"Writes a warrant against a child.", "Returns its chalk."})
    static void chalkOfAWarrant() {
        row(LINES + "|h1:33323", "warrant 1", 3, "t1=0 w1=3 order=1 written=1 undo=3");
        row(LINES + "|h1:3333;h1:3333", "warrant 1", 8, "t1=0 w1=8 order=1 written=1 undo=3");
        row(NINE, "warrant 1", 9, "t1=0 w1=9 order=1 written=1 undo=3");
        row(NINE + "|h1:32333", "warrant 1", 9, "t1=0 w1=9 order=1 written=1 undo=4");
        text("n99;n9" + ALL + "|h1:111111111111", "w1", 1, "t1=0 w1=9 order=1 written=1 undo=5");
    }

    @Says(promise = 5, value = "child: the child")
    static void childOfAWarrant() {
        refusedChild("", 0, "warrant #");
        refusedChild(TROD, 2, "warrant #");
        refusedChild(FIVE, 5, "warrant #");
        row("n9;n9;c1@2;c1@5;c1@8|h0:3333", "warrant 0", 3, "t0=0 w0=3 order=0 written=1 undo=3");
        row(FIVE + ";c2@2;c2@5;c2@8|h4:3333", "warrant 4", 3, "t4=0 w4=3 order=4 written=1 undo=3");
    }

    @Says(promise = 5, value = "Throws UnsupportedOperationException if it is refused for the reason 3, 7 or 9; the reason "
            + "is kept")
    static void refusedWarrant() {
        refused(WANTED, "warrant 2", "3 2 0");
        refused(WANTED, "warrant 1", "7 4 0");
        refused(WANTED, "warrant 0", "9 0 0");
        refused(LINES + "|h1:33233", "warrant 1", "9 2 0");
        row(LINES + "|h1:33323", "warrant 1", 3, "t1=0 w1=3 order=1 written=1 undo=3");
        refused(WANTED + "|s1", "warrant 1", "9 0 0");
    }

    @Says(promise = 6, value = {"Lets a child strike the warrant.", "Returns how many pebbles the child has then."})
    static void pebblesAfterAStrike() {
        row(WANTED, "strike 1", 5, "p1=5 w1=0 order=none chest=8 undo=4");
        row(WANTED + "|g1>0*5", "strike 1", 0, "p1=0 w1=0 order=none chest=8 undo=5");
        row(WANTED + "|g1>0*4", "strike 1", 1, "p1=1 w1=0 order=none chest=8 undo=5");
        refused(WANTED + "|g1>0*6", "strike 1", "5 1 0");
        row(WANTED + "|r3", "strike 1", 8, "p1=8 w1=0 order=none chest=5 undo=5");
        row(NINE + "|w1", "strike 1", 0, "p1=0 w1=0 order=none chest=13 undo=4");
        refused(NINE + "|w1;g1>0*1", "strike 1", "5 1 0");
    }

    @Says(promise = 6, value = "child: the child")
    static void childOfAStrike() {
        refusedChild("", 0, "strike #");
        refusedChild(WANTED, 2, "strike #");
        refusedChild(FIVE, 5, "strike #");
        row("n9;n9;c1@2;c1@5;c1@8|h0:3333;w0", "strike 0", 6, "p0=6 w0=0 order=none chest=6 undo=3");
        row(FIVE + ";c2@2;c2@5;c2@8|h4:3333;w4", "strike 4", 2, "p4=2 w4=0 order=none chest=6 undo=3");
    }

    @Says(promise = 6, value = "Throws UnsupportedOperationException if it is refused for the reason 3, 10 or 5; the reason "
            + "is kept")
    static void refusedStrike() {
        refused("n0", "strike 1", "3 1 0");
        refused("n0", "strike 0", "10 0 0");
        refused(WANTED + "|g1>0*9", "strike 0", "10 0 0");
        refused(WANTED + "|g1>0*9", "strike 1", "5 4 0");
        refused(WANTED + "|g1>0*6", "strike 1", "5 1 0");
        row(WANTED + "|g1>0*5", "strike 1", 0, "p1=0 w1=0 order=none chest=8 undo=5");
    }

    @Says(promise = 7, value = {"Lets it rain.", "rain: how much chalk it takes, 1 to 9"})
    static void leastAndMostRain() {
        for (String wrong : new String[] {"MIN", "-9", "-1", "0", "10", "11", "MAX"}) {
            refused(WANTED, "rain " + wrong, "1 0 0");
        }
        row(WANTED, "rain 1", 0, "s2=0/3 s5=0/3 s8=0/3 s11=0/3 w1=3 undo=4");
        row(WANTED, "rain 2", 0, "s2=0/2 s5=0/2 s8=0/2 s11=0/2 w1=2 undo=4");
        row("n9;c0@0;c0@0;c0@0;c0@1", "rain 8", 1, "s0=0/1 s1=. undo=2");
        row("n9;c0@0;c0@0;c0@0;c0@1", "rain 9", 2, "s0=. s1=. undo=2");
    }

    @Says(promise = 7, value = "Returns how many squares get free, and warrants are ended, together.")
    static void howManyRainEnds() {
        row(WANTED, "rain 3", 0, "s2=0/1 s5=0/1 s8=0/1 s11=0/1 w1=1 undo=4");
        row(WANTED, "rain 4", 5, FREED_BY_RAIN + " w1=0 order=none washed=1 undo=4");
        row(NINE + "|w1;r3", "rain 5", 0, "w1=1 undo=4");
        row(NINE + "|w1;r3", "rain 6", 1, "w1=0 order=none washed=1 undo=4");
        row(NINE + "|w1", "rain 2", 1, "s2=. s5=0/1 s8=0/1 s11=0/1 w1=7 undo=4");
        row(NINE + "|w1", "rain 9", 5, FREED_BY_RAIN + " w1=0 order=none washed=1 undo=4");
        // What was free before, or without a warrant, does not count.
        row("n9;c0@0", "rain 9", 1, "s0=. undo=2");
        row("n99" + ALL, "rain 5", 12, "s0=. s1=. s2=. s3=. s4=. s5=. s6=. s7=. s8=. s9=. s10=. s11=. undo=4");
        row("n99" + ALL, "rain 4", 0, "s0=0/1 s1=0/1 s2=0/1 s3=0/1 s4=0/1 s5=0/1 s6=0/1 s7=0/1 s8=0/1 s9=0/1 s10=0/1"
                + " s11=0/1 undo=4");
        row(THREE + "|w2;w1;w3", "rain 3", 6,
                "s2=. s5=. s8=. w1=0 w2=0 w3=0 order=none washed=3 undo=4");
        row(THREE + "|w2;w1;w3", "rain 2", 3, "s2=. s5=. s8=. w1=1 w2=1 w3=1 undo=4");
        // Those that an earlier rain ended count no more, but stay in the account of all.
        row(THREE + "|w2|r3;w1;w3", "rain 3", 2, "w1=0 w3=0 order=none washed=3 undo=5");
    }

    @Says(promise = 7, value = "Throws UnsupportedOperationException if it is refused for the reason 1 or 12; the reason is "
            + "kept")
    static void refusedRain() {
        refused("", "rain 0", "1 0 0");
        refused("", "rain 10", "1 0 0");
        refused("", "rain 1", "12 0 0");
        refused("n9", "rain 9", "12 0 0");
        row("n9;c0@0;r4", "rain 9", 1, "s0=. undo=2");
        refused("n9;c0@0;r5", "rain 9", "12 0 0");
        refused("n9;c0@0;r5", "rain 0", "1 0 0");
    }

    @Says(promise = 8, value = {"Ends a term.", "Returns how many squares are repossessed."})
    static void howManyATermTakes() {
        row("n4;c0@1;c0@8", "term", 0, "p0=1 chest=3 terms=1 undo=2");
        row("n3;c0@1;c0@8", "term", 1, "s8=. lost=1 terms=1 undo=2");
        row("n2;c0@1;c0@8", "term", 2, "s1=. s8=. p0=1 chest=1 lost=2 terms=1 undo=2");
        row("n1;n2;c0@1;c1@8;c1@9", "term", 3, "s1=. s8=. s9=. p0=1 p1=1 chest=1 lost=3 terms=1 undo=2");
        row("n12" + ALL, "term", 12, "s0=. s1=. s2=. s3=. s4=. s5=. s6=. s7=. s8=. s9=. s10=. s11=. p0=1 chest=11 lost=12"
                + " terms=1 undo=4");
        row("n13" + ALL, "term", 11, "s1=. s2=. s3=. s4=. s5=. s6=. s7=. s8=. s9=. s10=. s11=. lost=11 terms=1"
                + " undo=4");
        row("n23" + ALL, "term", 1, "s11=. p0=1 chest=22 lost=1 terms=1 undo=4");
        row("n24" + ALL, "term", 0, "p0=1 chest=23 terms=1 undo=4");
        // Warrants and treads stay.
        row(WANTED, "term", 0, "p0=2 p1=10 chest=6 terms=1 undo=4");
        row("n0", "term", 0, "terms=1 undo=2");
        row("n3;c0@1;c0@8|term", "term", 0, "terms=2 undo=3");
    }

    @Says(promise = 8, value = "Throws UnsupportedOperationException if it is refused for the reason 13; the reason is kept")
    static void refusedTerm() {
        refused("", "term", "13 0 0");
        refused("n9|undo", "term", "13 0 0");
        row("n0", "term", 0, "terms=1 undo=2");
        row(FIVE, "term", 0, "terms=1 undo=2");
    }

    @Says(promise = 9, value = {"Lets a child give pebbles to another one.", "pebbles: how many, 1 to 99"})
    static void leastAndMostGift() {
        for (String wrong : new String[] {"MIN", "-1", "0", "100", "101", "MAX"}) {
            refused("n99;n99", "give 0 1 " + wrong, "1 0 0");
        }
        row("n99;n99", "give 0 1 1", 98, "p0=98 p1=100 undo=2");
        row("n99;n99", "give 0 1 2", 97, "p0=97 p1=101 undo=2");
        row("n99;n99", "give 0 1 98", 1, "p0=1 p1=197 undo=2");
        row("n99;n99", "give 0 1 99", 0, "p0=0 p1=198 undo=2");
        // A child with more than 99 pebbles gives 99 at most.
        refused("n99;n99;g0>1*99", "give 1 0 100", "1 0 0");
        row("n99;n99;g0>1*99", "give 1 0 99", 99, "p0=99 p1=99 undo=2");
    }

    @Says(promise = 9, value = {"child: the child", "other: the other one"})
    static void childrenOfAGift() {
        refusedChild("", 0, "give # 0 1");
        refusedChild("n9", 1, "give # 0 1");
        refusedChild("n9", 1, "give 0 # 1");
        refusedChild(FIVE, 5, "give # 0 1");
        refusedChild(FIVE, 5, "give 0 # 1");
        row(FIVE, "give 0 4 1", 0, "p0=0 p4=6 undo=2");
        row(FIVE, "give 4 0 5", 0, "p0=6 p4=0 undo=2");
        refused(FIVE, "give 0 0 1", "11 0 0");
        refused(FIVE, "give 4 4 1", "11 4 0");
    }

    @Says(promise = 9, value = "Returns how many pebbles the child has then.")
    static void pebblesAfterAGift() {
        row("n7;n9", "give 0 1 6", 1, "p0=1 p1=15 undo=2");
        row("n7;n9", "give 0 1 7", 0, "p0=0 p1=16 undo=2");
        refused("n7;n9", "give 0 1 8", "5 1 0");
        refused("n0;n9", "give 0 1 1", "5 1 0");
        refused("n0;n9", "give 0 1 99", "5 99 0");
        // A child against whom there is a warrant can give, and get.
        row(WANTED, "give 1 0 9", 0, "p0=14 p1=0 undo=4");
        row(WANTED, "give 0 1 5", 0, "p0=0 p1=14 undo=4");
    }

    @Says(promise = 9, value = "Throws UnsupportedOperationException if it is refused for the reason 3, for the child, then "
            + "for the other one, 11, 1 or 5; the reason is kept")
    static void refusedGift() {
        refused("n0;n0", "give 2 2 0", "3 2 0");
        refused("n0;n0", "give 2 0 0", "3 2 0");
        refused("n0;n0", "give 0 2 0", "3 2 0");
        refused("n0;n0", "give 1 1 0", "11 1 0");
        refused("n0;n0", "give 1 1 100", "11 1 0");
        refused("n0;n0", "give 1 1 1", "11 1 0");
        refused("n0;n0", "give 0 1 0", "1 0 0");
        refused("n0;n0", "give 0 1 100", "1 0 0");
        refused("n0;n0", "give 0 1 1", "5 1 0");
        row("n1;n0", "give 0 1 1", 0, "p0=0 p1=1 undo=2");
    }
}
