/** The boundaries that the sentences under Terms name about texts, reasons and changes. */
public final class EdgesOfReasonsTest extends Edges {
    private static final String HOPPED = "s2=0/4 s5=0/4 s8=0/4 s11=0/4 o0=4 t1=4 h1=1 treads=4 undo=2";
    private static final String NINE_CHANGES = "n99|c0@0|c0@1|c0@2|c0@3|c0@4|c0@5|c0@6|c0@7";

    public static void main(String[] args) throws ReflectiveOperationException {
        run(EdgesOfReasonsTest.class);
    }

    @Says("The text buffer holds one or more commands with \";\" between them: \"n\" and a number lets a child come with "
            + "so many pebbles;")
    static void commandsOfAText() {
        fault("", 0);
        fault(";", 0);
        fault("n", 1);
        fault("n;", 1);
        text("", "n0", 1, "children=1 undo=1");
        text("", "n9", 1, "p0=9 children=1 undo=1");
        text("", "n10", 1, "p0=10 children=1 undo=1");
        text("", "n99", 1, "p0=99 children=1 undo=1");
        text("", "n00", 1, "children=1 undo=1");
        text("", "n07", 1, "p0=7 children=1 undo=1");
        fault("n100", 3);
        fault("n000", 3);
        fault("n-1", 1);
        fault("nn", 1);
        text("", "n7;n8", 2, "p0=7 p1=8 children=2 undo=1");
        fault("n7;", 3);
        fault("n7;;n8", 3);
        fault(";n7", 0);
        fault("n7 ;n8", 2);
        fault("n7; n8", 3);
        fault("n7,n8", 2);
        fault("n7:n8", 2);
        fault("n7<n8", 2);
    }

    @Says("\"c\", a child, \"@\" and a square chalks;")
    static void chalkOfAText() {
        fault("c", 1);
        fault("c@", 1);
        fault("c@1", 1);
        fault("c0", 2);
        fault("c01@1", 2);
        fault("c0A1", 2);
        fault("c0?1", 2);
        fault("c0@", 3);
        fault("c0@;", 3);
        fault("c0@110", 5);
        text("n9", "c0@0", 1, "s0=0/5 p0=8 chest=1 undo=2");
        text("n9", "c0@9", 1, "s9=0/5 p0=8 chest=1 undo=2");
        text("n9", "c0@10", 1, "s10=0/5 p0=8 chest=1 undo=2");
        text("n9", "c0@11", 1, "s11=0/5 p0=8 chest=1 undo=2");
        text("n9", "c0@00", 1, "s0=0/5 p0=8 chest=1 undo=2");
        text("n9", "c0@03", 1, "s3=0/5 p0=8 chest=1 undo=2");
        refusedText("n9", "c0@12", "1 0 0");
        refusedText("n9", "c0@99", "1 0 0");
        refusedText("n9", "c1@0", "3 1 0");
        refusedText("n9", "c9@0", "3 1 0");
        text(FIVE, "c4@11", 1, "s11=4/5 p4=4 chest=1 undo=2");
    }

    @Says("\"h\", a child, \":\" and 1 to 12 digits from 1 to 3 hops by these steps;")
    static void hopOfAText() {
        fault("h", 1);
        fault("h:", 1);
        fault("h0", 2);
        fault("h01:3333", 2);
        fault("h0;3333", 2);
        fault("h09", 2);
        fault("h0:", 3);
        fault("h0:;", 3);
        fault("h0:0", 3);
        fault("h0:4", 3);
        fault("h0:30", 4);
        fault("h0:34", 4);
        fault("h0:1111111111111", 15);
        fault("h0:3333333333333", 15);
        fault("h0:111111111111;", 16);
        refusedText("n9", "h0:1", "8 0 0");
        refusedText("n9", "h0:3", "8 2 0");
        refusedText("n9", "h0:11111111111", "8 10 0");
        text("n9", "h0:111111111111", 1, "h0=1 undo=2");
        text("n9", "h0:11111111112", 1, "h0=1 undo=2");
        text("n9", "h0:11111111113", 1, "h0=1 undo=2");
        text("n9", "h0:1111111113", 1, "h0=1 undo=2");
        text("n9", "h0:111111123", 1, "h0=1 undo=2");
        refusedText("n9", "h0:111111111121", "8 12 0");
        refusedText("n9", "h0:333333333333", "8 12 0");
        text(LINES, "h1:3333", 1, HOPPED);
        text(LINES, "h1:111111111111", 1, HOPPED);
        refusedText("n9", "h1:3333", "3 1 0");
    }

    @Says("\"w\" and a child writes a warrant;")
    static void warrantOfAText() {
        fault("w", 1);
        fault("w;", 1);
        fault("w/", 1);
        fault("w:", 1);
        fault("w11", 2);
        fault("w1;", 3);
        text(TROD, "w1", 1, "t1=0 w1=4 order=1 written=1 undo=3");
        refusedText(TROD, "w0", "9 0 0");
        refusedText(TROD, "w2", "3 2 0");
        refusedText(TROD, "w9", "3 2 0");
    }

    @Says("\"s\" and a child strikes it;")
    static void strikeOfAText() {
        fault("s", 1);
        fault("s;", 1);
        fault("s/", 1);
        fault("s:", 1);
        fault("s11", 2);
        fault("s1;", 3);
        text(WANTED, "s1", 1, "p1=5 w1=0 order=none chest=8 undo=4");
        refusedText(WANTED, "s0", "10 0 0");
        refusedText(WANTED, "s2", "3 2 0");
    }

    @Says("\"r\" and a digit lets it rain;")
    static void rainOfAText() {
        fault("r", 1);
        fault("r;", 1);
        fault("r-1", 1);
        fault("r10", 2);
        fault("r01", 2);
        refusedText("n9;c0@0", "r0", "1 0 0");
        text("n9;c0@0", "r1", 1, "s0=0/4 undo=2");
        text("n9;c0@0;c0@0;c0@0", "r8", 1, "s0=0/1 undo=2");
        text("n9;c0@0;c0@0;c0@0", "r9", 1, "s0=. undo=2");
    }

    @Says("\"t\" ends a term;")
    static void termOfAText() {
        fault("t0", 1);
        fault("tt", 1);
        fault("T", 0);
        fault("s", 1);
        fault("u", 0);
        text("n9", "t", 1, "terms=1 undo=2");
        text("n9", "t;t", 2, "terms=2 undo=2");
        refusedText("", "t", "13 0 0");
    }

    @Says("\"g\", a child, \">\", a child, \"*\" and a number gives pebbles.")
    static void giftOfAText() {
        fault("g", 1);
        fault("g>", 1);
        fault("g0", 2);
        fault("g00>1*1", 2);
        fault("g0=1*1", 2);
        fault("g0?1*1", 2);
        fault("g0>", 3);
        fault("g0>*1", 3);
        fault("g0>1", 4);
        fault("g0>11*1", 4);
        fault("g0>1+1", 4);
        fault("g0>1)1", 4);
        fault("g0>1*", 5);
        fault("g0>1*;", 5);
        fault("g0>1*100", 7);
        refusedText("n99;n9", "g0>1*0", "1 0 0");
        refusedText("n99;n9", "g0>1*00", "1 0 0");
        text("n99;n9", "g0>1*1", 1, "p0=98 p1=10 undo=2");
        text("n99;n9", "g0>1*01", 1, "p0=98 p1=10 undo=2");
        text("n99;n9", "g0>1*9", 1, "p0=90 p1=18 undo=2");
        text("n99;n9", "g0>1*10", 1, "p0=89 p1=19 undo=2");
        text("n99;n9", "g0>1*99", 1, "p0=0 p1=108 undo=2");
        refusedText("n99;n9", "g1>0*10", "5 1 0");
        refusedText("n99;n9", "g2>0*1", "3 2 0");
        refusedText("n99;n9", "g0>2*1", "3 2 0");
    }

    @Says("Children have one digit, all else one or two.")
    static void digitsOfATextsNumbers() {
        for (String start : new String[] {"c", "h", "w", "s", "g", "g0>"}) {
            // The characters just below "0" and just above "9".
            fault(start, start.length());
            fault(start + "/", start.length());
            fault(start + ":", start.length());
            fault(start + "00", start.length() + 1);
            fault(start + "90", start.length() + 1);
        }
        for (String start : new String[] {"n", "c0@", "g0>1*"}) {
            fault(start, start.length());
            fault(start + "/", start.length());
            fault(start + ":", start.length());
            fault(start + "1/", start.length() + 1);
            fault(start + "1:", start.length() + 1);
            fault(start + "111", start.length() + 2);
            fault(start + "010", start.length() + 2);
        }
        text(FIVE, "g0>4*1;c4@09;g4>0*05", 3, "s9=4/5 p0=5 p4=0 chest=1 undo=2");
    }

    @Says("The fault position of a text is the index of its first character that cannot continue such a text, or the "
            + "length of the text if it ends too early.")
    static void faultPositions() {
        fault("", 0);
        fault("x", 0);
        fault("t;x", 2);
        fault("t;", 2);
        fault("tx", 1);
        fault("t;c0@1;h1:3334;t", 13);
        fault("t;c0@1;h1:333;n", 15);
        fault("t;c0@1;h1:333;nx", 15);
        fault("t;c0@1;h1:333;n1;x", 17);
        fault("n1" + (char) 0, 2);
        fault("n" + (char) 255, 1);
        String terms = "t;".repeat(30);
        fault(terms, 60);
        fault(terms.substring(0, 59) + "t", 59);
        fault("x" + terms.substring(1), 0);
        text("n9", terms.substring(0, 59), 30, "terms=30 undo=2");
    }

    @Says("The commands are carried out as the methods would, with their steps;")
    static void textsDoAsTheMethods() {
        row("n9", "child 99", 1, "p1=99 children=2 undo=2");
        text("n9", "n99", 1, "p1=99 children=2 undo=2");
        row("n9", "chalk 0 11", 5, "s11=0/5 p0=8 chest=1 undo=2");
        text("n9", "c0@11", 1, "s11=0/5 p0=8 chest=1 undo=2");
        row(LINES, "hop 1 3333", 4, HOPPED);
        text(LINES, "h1:3333", 1, HOPPED);
        row(TROD, "warrant 1", 4, "t1=0 w1=4 order=1 written=1 undo=3");
        text(TROD, "w1", 1, "t1=0 w1=4 order=1 written=1 undo=3");
        row(WANTED, "strike 1", 5, "p1=5 w1=0 order=none chest=8 undo=4");
        text(WANTED, "s1", 1, "p1=5 w1=0 order=none chest=8 undo=4");
        row(WANTED, "rain 4", 5, "s2=. s5=. s8=. s11=. w1=0 order=none washed=1 undo=4");
        text(WANTED, "r4", 1, "s2=. s5=. s8=. s11=. w1=0 order=none washed=1 undo=4");
        row(LINES, "term", 0, "p0=2 p1=10 chest=6 terms=1 undo=2");
        text(LINES, "t", 1, "p0=2 p1=10 chest=6 terms=1 undo=2");
        row("n9;n9", "give 0 1 9", 0, "p0=0 p1=18 undo=2");
        text("n9;n9", "g0>1*9", 1, "p0=0 p1=18 undo=2");
        // Each command sees what the ones ahead of it did.
        text("", "n1;c0@2;n4;h1:3333", 4, "s2=0/4 o0=1 p1=4 t1=1 h1=1 children=2 chest=1 treads=1 undo=1");
        refusedText("", "c0@2;n1", "3 0 0");
    }

    @Says("all of them or none.")
    static void allCommandsOrNone() {
        text("n9", "t", 1, "terms=1 undo=2");
        refusedText("n9", "w0", "9 0 0");
        refusedText("n9", "w0;t;t", "9 0 0");
        refusedText("n9", "t;w0;t", "9 0 1");
        refusedText("n9", "t;t;w0", "9 0 2");
        refusedText(LINES, "n5;c2@0;h1:3333;w1;s1;r1;t;g0>1*3;h0:3", "5 1 7");
        refusedText(LINES, "n5;c2@0;h1:3333;w1;s1;r1;t;g0>1*2;h0:3", "8 2 8");
        text(LINES, "n5;c2@0;h1:3333;w1;s1;r1", 6,
                "s0=2/4 s2=0/3 s5=0/3 s8=0/3 s11=0/3 o0=4 p1=5 h1=1 p2=4 children=3 chest=9 treads=4 written=1 undo=2");
        text(LINES, "t;t;", NO_ARGUMENT, "fault=4");
    }

    @Says("Something is refused for the first that applies of the reasons that its method names, in the order in which it "
            + "names them: 1, a number is out of range;")
    static void reasonOne() {
        refused("n9", "child -1", "1 0 0");
        row("n9", "child 0", 1, "children=2 undo=2");
        row("n9", "child 99", 1, "p1=99 children=2 undo=2");
        refused("n9", "child 100", "1 0 0");
        refused("n9", "chalk 0 -1", "1 0 0");
        refused("n9", "chalk 0 12", "1 0 0");
        refused("n9", "hop 0 4", "1 0 0");
        refused("n9;c0@0", "rain 0", "1 0 0");
        refused("n9;c0@0", "rain 10", "1 0 0");
        refused("n9;n9", "give 0 1 0", "1 0 0");
        refused("n9;n9", "give 0 1 100", "1 0 0");
        // Of two reasons the one that the method names first.
        refused(FIVE, "child -1", "1 0 0");
        refused(FIVE, "child 100", "1 0 0");
        refused(FIVE, "child 99", "2 5 0");
        refused("n0", "chalk 1 12", "3 1 0");
        refused("n0", "chalk 0 12", "1 0 0");
        refused("n9;n0;c0@0;c0@0;c0@0", "chalk 1 0", "4 0 0");
        refused("n3;c0@0;c0@0;c0@0", "chalk 0 0", "6 0 0");
        refused(WANTED, "hop 2 0", "3 2 0");
        refused(WANTED, "hop 1 0", "7 4 0");
        refused(WANTED, "hop 1 3", "7 4 0");
        refused(WANTED, "hop 0 40", "1 0 0");
        refused(WANTED, "warrant 2", "3 2 0");
        refused(WANTED, "warrant 1", "7 4 0");
        refused("n0", "strike 1", "3 1 0");
        refused("n0", "strike 0", "10 0 0");
        refused("", "rain 0", "1 0 0");
        refused("", "rain 9", "12 0 0");
        refused("n0", "give 1 2 0", "3 1 0");
        refused("n0", "give 0 1 0", "3 1 0");
        refused("n0", "give 0 0 0", "11 0 0");
        refused("n0;n0", "give 0 1 0", "1 0 0");
        refused("n0;n0", "give 0 1 1", "5 1 0");
    }

    @Says("2, there are 5 children: how many;")
    static void reasonTwo() {
        row("n1;n2;n3", "child 0", 3, "children=4 undo=2");
        row("n1;n2;n3;n4", "child 0", 4, "children=5 undo=2");
        refused(FIVE, "child 0", "2 5 0");
        refusedText(FIVE, "n0", "2 5 0");
        refusedText("", "n0;n1;n2;n3;n4;n5", "2 5 5");
        row(FIVE + "|undo|n1;n2;n3;n4", "child 0", 4, "children=5 undo=2");
    }

    @Says("3, there is no such child: how many there are;")
    static void reasonThree() {
        for (String words : new String[] {"chalk # 0", "hop # 3333", "warrant #", "strike #", "give # 0 1", "give 0 # 1"}) {
            refusedChild("n9", 1, words);
            refusedChild(FIVE, 5, words);
        }
        for (String words : new String[] {"chalk 0 0", "hop 0 3333", "warrant 0", "strike 0", "give 0 0 1"}) {
            refused("", words, "3 0 0");
        }
        row("n9;n9", "chalk 1 0", 5, "s0=1/5 p1=8 chest=1 undo=2");
        refused("n9;n9", "chalk 2 0", "3 2 0");
        // In a text, as many as there are then.
        refusedText("n9", "n9;c2@0", "3 2 1");
        text("n9", "n9;c1@0", 2, "s0=1/5 p1=8 children=2 chest=1 undo=2");
    }

    @Says("4, the square is owned by another child: by whom;")
    static void reasonFour() {
        refused(FIVE + ";c0@3", "chalk 4 3", "4 0 0");
        refused(FIVE + ";c4@3", "chalk 0 3", "4 4 0");
        refused(FIVE + ";c4@3;r4", "chalk 0 3", "4 4 0");
        row(FIVE + ";c4@3;r5", "chalk 0 3", 5, "s3=0/5 p0=0 chest=2 undo=2");
        row(FIVE + ";c4@3", "chalk 4 3", 7, "s3=4/7 p4=3 chest=2 undo=2");
        row(FIVE + ";c4@3", "chalk 0 2", 5, "s2=0/5 p0=0 chest=2 undo=2");
        row(FIVE + ";c4@3", "chalk 0 4", 5, "s4=0/5 p0=0 chest=2 undo=2");
    }

    @Says("5, there are too few pebbles: how many are lacking;")
    static void reasonFive() {
        refused("n0", "chalk 0 0", "5 1 0");
        row("n1", "chalk 0 0", 5, "s0=0/5 p0=0 chest=1 undo=2");
        String wanted = ";c0@2;c0@5;c0@8;c0@11|h1:3333|w1";
        refused("n9;n0" + wanted, "strike 1", "5 4 0");
        refused("n9;n3" + wanted, "strike 1", "5 1 0");
        row("n9;n4" + wanted, "strike 1", 0, "p1=0 w1=0 order=none chest=8 undo=4");
        refused("n7;n7", "give 0 1 8", "5 1 0");
        row("n7;n7", "give 0 1 7", 0, "p0=0 p1=14 undo=2");
        row("n7;n7", "give 0 1 6", 1, "p0=1 p1=13 undo=2");
        refused("n0;n7", "give 0 1 99", "5 99 0");
    }

    @Says("6, the square has chalk 9 already: the square;")
    static void reasonSix() {
        row("n9;c0@0;c0@0", "chalk 0 0", 9, "s0=0/9 p0=6 chest=3 undo=2");
        refused("n9;c0@0;c0@0;c0@0", "chalk 0 0", "6 0 0");
        refused("n9;c0@11;c0@11;c0@11", "chalk 0 11", "6 11 0");
        row("n9;c0@11;c0@11;c0@11;r1", "chalk 0 11", 9, "s11=0/9 p0=5 chest=4 undo=2");
    }

    @Says("7, there is a warrant against the child: its chalk;")
    static void reasonSeven() {
        refused(WANTED, "hop 1 3333", "7 4 0");
        refused(WANTED, "warrant 1", "7 4 0");
        refused(WANTED + "|r3", "hop 1 3333", "7 1 0");
        refused(WANTED + "|r3", "warrant 1", "7 1 0");
        refused(NINE + "|w1", "hop 1 3333", "7 9 0");
        refused(NINE + "|w1", "warrant 1", "7 9 0");
        row(WANTED + "|r4", "hop 1 3333", 0, "h1=2 undo=5");
        refused(WANTED + "|r4", "warrant 1", "9 0 0");
        row(WANTED, "hop 0 3333", 0, "h0=1 undo=4");
    }

    @Says("8, the steps end ahead of the square 11: the square on which they end;")
    static void reasonEightAhead() {
        refused("n9", "hop 0 1", "8 0 0");
        refused("n9", "hop 0 2", "8 1 0");
        refused("n9", "hop 0 3", "8 2 0");
        refused("n9", "hop 0 3331", "8 9 0");
        refused("n9", "hop 0 3332", "8 10 0");
        row("n9", "hop 0 3333", 0, "h0=1 undo=2");
        refusedText("n9", "h0:11111111111", "8 10 0");
        text("n9", "h0:111111111111", 1, "h0=1 undo=2");
    }

    @Says("or they go on though they are on it, or behind it: 12;")
    static void reasonEightBehind() {
        row("n9", "hop 0 33321", 0, "h0=1 undo=2");
        row("n9", "hop 0 33322", 0, "h0=1 undo=2");
        row("n9", "hop 0 33323", 0, "h0=1 undo=2");
        refused("n9", "hop 0 33331", "8 12 0");
        refused("n9", "hop 0 33333", "8 12 0");
        refused("n9", "hop 0 333211", "8 12 0");
        refused("n9", "hop 0 333221", "8 12 0");
        refused("n9", "hop 0 333231", "8 12 0");
        refused("n9", "hop 0 333333333", "8 12 0");
    }

    @Says("9, the child has fewer than 3 treads: how many;")
    static void reasonNine() {
        refused(LINES, "warrant 1", "9 0 0");
        refused(LINES + "|h1:32333", "warrant 1", "9 1 0");
        refused(LINES + "|h1:33233", "warrant 1", "9 2 0");
        row(LINES + "|h1:33323", "warrant 1", 3, "t1=0 w1=3 order=1 written=1 undo=3");
        row(LINES + "|h1:33233;h1:32333", "warrant 1", 3, "t1=0 w1=3 order=1 written=1 undo=3");
        refused(WANTED + "|s1", "warrant 1", "9 0 0");
    }

    @Says("10, there is no warrant against the child;")
    static void reasonTen() {
        refused(TROD, "strike 1", "10 0 0");
        row(WANTED, "strike 1", 5, "p1=5 w1=0 order=none chest=8 undo=4");
        refused(WANTED, "strike 0", "10 0 0");
        refused(WANTED + "|s1", "strike 1", "10 0 0");
        row(WANTED + "|r3", "strike 1", 8, "p1=8 w1=0 order=none chest=5 undo=5");
        refused(WANTED + "|r4", "strike 1", "10 0 0");
    }

    @Says("11, both children are one: the child;")
    static void reasonEleven() {
        refused(FIVE, "give 0 0 1", "11 0 0");
        refused(FIVE, "give 4 4 1", "11 4 0");
        row(FIVE, "give 4 3 1", 4, "p3=5 p4=4 undo=2");
        row(FIVE, "give 3 4 1", 3, "p3=3 p4=6 undo=2");
        refused(FIVE, "give 5 5 1", "3 5 0");
        refused(FIVE, "give 4 4 0", "11 4 0");
        refused(FIVE, "give 4 4 6", "11 4 0");
    }

    @Says("12, nothing is chalked;")
    static void reasonTwelve() {
        refused("", "rain 1", "12 0 0");
        refused("n9", "rain 1", "12 0 0");
        row("n9;c0@0", "rain 1", 0, "s0=0/4 undo=2");
        refused("n9;c0@0;r5", "rain 1", "12 0 0");
        row(NINE + "|w1;r3", "rain 5", 0, "w1=1 undo=4");
        refused(NINE + "|w1;r3;r6", "rain 1", "12 0 0");
        refused(NINE + "|w1;r3;s1", "rain 1", "12 0 0");
    }

    @Says("13, there are no children.")
    static void reasonThirteen() {
        refused("", "term", "13 0 0");
        row("n0", "term", 0, "terms=1 undo=2");
        refused("n0|undo", "term", "13 0 0");
    }

    @Says("If nothing else is told, the detail is 0.")
    static void detailZero() {
        // A reason with a detail comes first, so that its detail would stay if it was not written anew.
        String hint = "?hop 0 33333|";
        for (String words : new String[] {"child -1", "child 100", "chalk 0 12", "hop 0 4", "rain 10"}) {
            row("n9;n9|" + hint, words, REFUSED, "reason=1 0 0");
        }
        refused("n9;n9|" + hint, "give 0 1 0", "1 0 0");
        refused("n9;n9|" + hint, "strike 0", "10 0 0");
        refused("n9;n9|" + hint, "rain 1", "12 0 0");
        refused("?hop 9 3333|n9|undo|?child 100|?chalk 9 9", "term", "13 0 0");
    }

    @Says("The reason is kept with the index of the command of a text, from 0, or 0 for another call.")
    static void indexOfTheCommand() {
        refusedText("n9", "w0", "9 0 0");
        refusedText("n9", "w0;t", "9 0 0");
        refusedText("n9", "t;w0", "9 0 1");
        refusedText("n9", "t;".repeat(28) + "w0;t", "9 0 28");
        refusedText("n9", "t;".repeat(29) + "w0", "9 0 29");
        refused("n9|~t;t;w0|?commands", "hop 0 333", "8 8 0");
        refused("n9|~t;t;w0|?commands", "warrant 0", "9 0 0");
        text("n9|?hop 0 333", "t;t;x", NO_ARGUMENT, "fault=4");
        text("n9|?hop 0 333", "t;t", 2, "terms=2 undo=2");
    }

    @Says("What can be undone are the successful calls of child, chalk, hop, warrant, strike, rain, term, give and commands.")
    static void whatCanBeUndone() {
        for (String words : new String[] {"child 1", "chalk 0 0", "hop 0 3333", "term", "give 0 1 1", "rain 1", "strike 1"}) {
            tells(WANTED + "|" + words, "account 10", 4);
            row(WANTED + "|line|" + words, "undo", 3, undone(words));
        }
        tells(TROD + "|warrant 1", "account 10", 3);
        row(TROD + "|warrant 1", "undo", 2, "t1=4 w1=0 order=none written=0 undo=2");
        tells(WANTED + "|n1;c2@0;t", "account 10", 4);
        row("n1;n2|n3;c0@0;t", "undo", 1, "children=2 lost=0 terms=0 undo=1 no p2 no t2 no w2 no h2 no o2");
        for (String words : new String[] {"?child 100", "?chalk 0 12", "?hop 1 3333", "?warrant 1", "?strike 0", "?rain 0",
            "?give 0 0 1", "~t;w0|?commands", "~t;x|?commands", "save", "line", "warrants", "~t", "fewest 0", "step 0 0",
            "termsFor 0", "wouldEnd 9", "wouldTread 0 3333"}) {
            tells(WANTED + "|" + words, "account 10", 3);
        }
        tells("?term", "account 10", 0);
        tells("?term", "undo", NO_STATE);
    }

    private static String undone(String words) {
        switch (words) {
            case "child 1": return "children=2 undo=3 no p2 no t2 no w2 no h2 no o2";
            case "chalk 0 0": return "s0=. p0=5 chest=4 undo=3";
            case "hop 0 3333": return "h0=0 undo=3";
            case "term": return "p0=5 p1=9 chest=4 terms=0 undo=3";
            case "give 0 1 1": return "p0=5 p1=9 undo=3";
            case "rain 1": return "s2=0/4 s5=0/4 s8=0/4 s11=0/4 w1=4 undo=3";
            default: return "p1=9 w1=4 order=1 chest=4 undo=3";
        }
    }

    @Says("What there was before each of the latest 8 is kept;")
    static void eightAreKept() {
        tells("", "account 10", 0);
        tells("n9", "account 10", 1);
        tells("n9|t|t|t|t|t|t", "account 10", 7);
        tells("n9|t|t|t|t|t|t|t", "account 10", 8);
        tells("n9|t|t|t|t|t|t|t|t", "account 10", 8);
        row("n9|t|t|t|t|t|t", "term", 0, "terms=7 undo=8");
        row("n9|t|t|t|t|t|t|t", "term", 0, "terms=8");
        tells("n9|t|t|t|t|t|t|t|t", "account 9", 8);
        String undos = "|undo|undo|undo|undo|undo|undo|undo";
        row(NINE_CHANGES, "undo", 7, "s7=. p0=92 chest=7 undo=7");
        row(NINE_CHANGES + undos, "undo", 0, "s0=. p0=99 chest=0 undo=0");
        tells(NINE_CHANGES + undos + "|undo", "undo", NO_STATE);
        tells(NINE_CHANGES + undos + "|undo", "account 0", 1);
        row("n9|c0@0|c0@1|c0@2|c0@3|c0@4|c0@5|c0@6" + undos, "undo", 0, "children=0 undo=0 no p0 no t0 no w0 no h0 no o0");
        // What is undone ahead of other changes is not among the 8 any more.
        String others = NINE_CHANGES + "|c0@8|c0@9|c0@10|undo|undo|undo|t|t";
        tells(others, "account 10", 7);
        row(others + "|undo|undo|undo|undo|undo|undo", "undo", 0, "s3=. p0=96 chest=3 undo=0");
        tells(others + undos, "undo", NO_STATE);
    }

    @Says("restore forgets it.")
    static void restoreForgets() {
        row("n9|save|c0@0", "restore", 1, "s0=. p0=9 chest=0 undo=0");
        tells("n9|save|c0@0|restore", "undo", NO_STATE);
        tells("n9|save|restore", "undo", NO_STATE);
        row("n9|save|c0@0|restore|c0@1", "undo", 0, "s1=. p0=9 chest=0 undo=0");
        tells("n9|save|c0@0|restore|c0@1|undo", "undo", NO_STATE);
        row(NINE_CHANGES + "|save", "restore", 1, "undo=0");
        row("n9|c0@0", "undo", 1, "s0=. p0=9 chest=0 undo=1");
    }

    @Says("The text buffer, the fault position, the reason and the line do not belong to it, and stay.")
    static void whatStays() {
        String beside = "|~x|?commands|~t;t|?rain 0|line";
        row("n9" + beside + "|chalk 0 0", "undo", 1, "s0=. p0=9 chest=0 undo=1");
        row("n9|chalk 0 0" + beside, "undo", 1, "s0=. p0=9 chest=0 undo=1");
        row("n9|save|chalk 0 0" + beside, "restore", 1, "s0=. p0=9 chest=0 undo=0");
        row("n9|save" + beside + "|chalk 0 0", "restore", 1, "s0=. p0=9 chest=0 undo=0");
        tells("n9|chalk 0 0" + beside + "|undo", "account 11", 3);
        tells("n9|chalk 0 0" + beside + "|undo", "faultPosition", 0);
        tells("n9|chalk 0 0" + beside + "|undo", "reason 0", 1);
        tells("n9|chalk 0 0" + beside + "|undo", "character 0", 0);
    }
}
