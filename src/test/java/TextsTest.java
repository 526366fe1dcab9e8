import java.util.NoSuchElementException;
import java.util.function.Function;

/** Promises 26 to 32 and 36 to 38: texts, reasons, lines, undo and the snapshot. */
public final class TextsTest {
    private static final String BEGUN = "n9;n6;c0@2;c0@5;c0@8;c0@11";

    public static void main(String[] args) {
        append();
        commands();
        hopsOfTexts();
        allOrNone();
        faults();
        faultStays();
        reason();
        reasonOfTexts();
        line();
        warrants();
        undo();
        undoEachChange();
        undoLeaves();
        save();
        restore();
        Check.end("TextsTest");
    }

    private static void append() {
        ChalkWarrants x = new ChalkWarrants();
        char[] signs = {'n', 'q', (char) 0, (char) 255, (char) 65535, ' '};
        for (int length = 1; length <= 60; length++) {
            Check.same("the length", length, x.append(signs[length % signs.length]));
        }
        Check.same("the characters", 60, x.account(11));
        String before = Check.picture(x);
        Check.same("one more", "throws.IllegalStateException", Check.answer(x, y -> y.append('n')));
        Check.same("the state after it", before, Check.picture(x));
        Check.same("carried out", "throws.IllegalArgumentException", Check.answer(x, y -> y.commands()));
        Check.same("the first again", 1, x.append('n'));
    }

    private static void commands() {
        ChalkWarrants x = new ChalkWarrants();
        Check.same("nine commands", 9, Check.carryOut(x, "n09;n5;c0@2;c0@05;c1@11;h1:3333;g0>1*2;t;r1"));
        Check.same("the yard", ". . 0/3 . . 0/3 . . . . . 1/4", Check.lineOf(x));
        // Child 0: 9 - 2 - 2 - 2 + 1, child 1: 5 - 1 + 2 - 1 + 1.
        Check.same("the pebbles", "4 6", x.childOf(0, 0) + " " + x.childOf(1, 0));
        Check.same("the chest", 4, x.account(2));
        Check.same("the buffer", 0, x.account(11));
        Check.same("one change", 1, x.account(10));
        Check.same("one command", 1, Check.carryOut(x, "h1:33312"));
        Check.same("a warrant", 1, Check.carryOut(x, "w1"));
        Check.same("for 4 treads", "1!4", Check.warrantsOf(x));
        Check.same("struck", 1, Check.carryOut(x, "s1"));
        Check.same("no warrant", "", Check.warrantsOf(x));
        Check.same("the pebbles", 2, x.childOf(1, 0));
        Check.same("thirty commands", 30, Check.carryOut(x, "t;t;t;t;t;t;t;t;t;t;t;t;t;t;t;t;t;t;t;t;t;t;t;t;t;t;t;t;t;t"));
        Check.same("the terms", 31, x.account(9));
        Check.same("no fault", -1, x.faultPosition());
        Check.same("nothing was refused", "none", Check.reasons(x));
        Check.answers("n99", 99, y -> y.childOf(0, 0));
        Check.answers("n0", 0, y -> y.childOf(0, 0));
        Check.answers("n00;n07;n10;n1", "0 7 10 1",
                y -> y.childOf(0, 0) + " " + y.childOf(1, 0) + " " + y.childOf(2, 0) + " " + y.childOf(3, 0));
        Check.answers("n50;n50;g1>0*07;g0>1*10;g0>1*9", "38 62", y -> y.childOf(0, 0) + " " + y.childOf(1, 0));
    }

    private static void hopsOfTexts() {
        Check.answers("n9;n9;c1@2;c1@3;h0:111111111111", "2 1", x -> x.childOf(0, 1) + " " + x.childOf(0, 5));
        Check.answers("n9;n9;c1@10;c1@11;h0:11111111112", 1, x -> x.childOf(0, 1));
        Check.answers("n9;n9;c1@10;c1@11;h0:1111111113", 1, x -> x.childOf(0, 1));
        refusedAt("n9", "h0:11111111111", 8, 10, 0);
        refusedAt("n9", "h0:1111111111", 8, 9, 0);
        refusedAt("n9", "h0:1", 8, 0, 0);
        refusedAt("n9", "h0:333333333333", 8, 12, 0);
        refusedAt("n9", "h0:111111111131", 8, 12, 0);
        refusedAt("n9", "h0:222222111111", 8, 12, 0);
    }

    private static void allOrNone() {
        refusedAt("", "n9;n9;c0@2;c1@2", 4, 0, 3);
        refusedAt(BEGUN, "n3;c2@0;c2@0;h1:3333;r1;t;w1;w1", 7, 4, 7);
        refusedAt(BEGUN, "c0@3;c0@12", 1, 0, 1);
        refusedAt(BEGUN, "c0@3;c0@99", 1, 0, 1);
        refusedAt(BEGUN, "t;r0", 1, 0, 1);
        refusedAt(BEGUN, "g0>1*0", 1, 0, 0);
        refusedAt(BEGUN, "g0>0*0", 11, 0, 0);
        refusedAt(BEGUN, "g0>9*1", 3, 2, 0);
        refusedAt(BEGUN, "n1;g9>0*1", 3, 3, 1);
        refusedAt(BEGUN, "g1>0*7", 5, 1, 0);
        refusedAt(BEGUN, "n1;n2;n3;n4", 2, 5, 3);
        refusedAt(BEGUN, "h2:3333", 3, 2, 0);
        refusedAt(BEGUN, "w1", 9, 0, 0);
        refusedAt(BEGUN, "r9;r1", 12, 0, 1);
        refusedAt("", "t", 13, 0, 0);
        refusedAt(BEGUN, "s0", 10, 0, 0);
        refusedAt(BEGUN + "|h1:3333;w1;g1>0*5", "r1;s1", 5, 2, 1);
        refusedAt("n9;c0@2", "c0@2;c0@2;c0@2", 6, 2, 2);
    }

    /** After the texts the text is refused at the command, nothing else is changed, and the buffer is empty. */
    private static void refusedAt(String texts, String text, int number, int detail, int command) {
        ChalkWarrants x = Check.yard(texts);
        String before = Check.picture(x);
        Check.type(x, text);
        Check.same(text, "throws.UnsupportedOperationException", Check.answer(x, y -> y.commands()));
        Check.same("the reason of " + text, number + " " + detail + " " + command, Check.reasons(x));
        Check.same("the state after " + text, before, Check.picture(x));
    }

    private static void faults() {
        String[] tooEarly = {"", "n", "c", "c0", "c0@", "h", "h0", "h0:", "w", "s", "r", "g", "g0", "g0>", "g0>1",
            "g0>1*", "t;", "n1;", "n12;", "t;t;t;c"};
        for (String text : tooEarly) {
            fault(text, text.length());
        }
        Object[][] wrong = {{"x", 0}, {";", 0}, {" t", 0}, {"N1", 0}, {"1", 0}, {"nx", 1}, {"n;", 1}, {"n123", 3},
            {"n1x", 2}, {"n-1", 1}, {"cx", 1}, {"c00@1", 2}, {"c0:1", 2}, {"c0@x", 3}, {"c0@123", 5}, {"c0@1 ", 4},
            {"h00:3", 2}, {"h0@3", 2}, {"h0:0", 3}, {"h0:4", 3}, {"h0:3334", 6}, {"h0:;", 3}, {"h0:3333x", 7},
            {"h0:1111111111111", 15}, {"h0:1111111111114", 15}, {"h0:111111111111x", 15}, {"w00", 2}, {"wx", 1},
            {"s00", 2}, {"s;", 1}, {"r10", 2}, {"rx", 1}, {"t1", 1}, {"tt", 1}, {"t;;", 2}, {"t;x", 2}, {"t ;t", 1},
            {"g00", 2}, {"g0<", 2}, {"g0>x", 3}, {"g0>11", 4}, {"g0>1*x", 5}, {"g0>1*123", 7}, {"g0*1", 2},
            {"n9;c0@2;z", 8}, {"n9,n9", 2}, {"n" + (char) 1633, 1}, {"t" + (char) 0, 1}, {(char) 65535 + "t", 0}};
        for (Object[] row : wrong) {
            fault((String) row[0], (int) row[1]);
        }
        String full = "t;t;t;t;t;t;t;t;t;t;t;t;t;t;t;t;t;t;t;t;t;t;t;t;t;t;t;t;t;t;";
        fault(full, 60);
        fault(full.substring(0, 59) + "t", 59);
    }

    private static void fault(String text, int due) {
        ChalkWarrants x = Check.yard(BEGUN);
        String before = Check.yardPicture(x);
        Check.type(x, text);
        Check.same(text, "throws.IllegalArgumentException", Check.answer(x, y -> y.commands()));
        Check.same("the fault of " + text, due, x.faultPosition());
        Check.same("the yard after " + text, before, Check.yardPicture(x));
        Check.same("the buffer after " + text, 0, x.account(11));
        Check.same("the changes after " + text, 1, x.account(10));
        Check.same("the reason after " + text, "none", Check.reasons(x));
    }

    private static void faultStays() {
        ChalkWarrants x = Check.yard("n9");
        Check.same("no fault yet", -1, new ChalkWarrants().faultPosition());
        Check.same("no fault", -1, x.faultPosition());
        failText(x, "n9;x");
        x.child(3);
        x.save();
        x.undo();
        x.restore();
        Check.same("it stays", 3, x.faultPosition());
        Check.type(x, "t");
        Check.same("it stays while a text is typed", 3, x.faultPosition());
        x.commands();
        Check.same("a right text", -1, x.faultPosition());
        failText(x, "n9;");
        Check.same("another fault", 3, x.faultPosition());
        failText(x, "w0");
        Check.same("a refused text has none", -1, x.faultPosition());
    }

    private static void failText(ChalkWarrants x, String text) {
        Check.type(x, text);
        Check.same(text + " fails", true, Check.answer(x, y -> y.commands()).startsWith("throws"));
    }

    private static void reason() {
        ChalkWarrants x = Check.yard("n9;n9");
        Check.same("nothing was refused", "throws.NoSuchElementException", Check.answer(x, y -> y.reason(0)));
        for (int wrong : new int[] {-1, 3, Integer.MIN_VALUE, Integer.MAX_VALUE}) {
            Check.thrown("", IllegalArgumentException.class, y -> y.reason(wrong));
            Check.same("no such number", "throws.IllegalArgumentException", Check.answer(x, y -> y.reason(wrong)));
        }
        for (int what = 0; what < 3; what++) {
            int right = what;
            Check.thrown("n9", NoSuchElementException.class, y -> y.reason(right));
        }
        x.save();
        Check.answer(x, y -> y.hop(0, 33));
        Check.same("a reason", "8 5 0", Check.reasons(x));
        Check.same("no such number", "throws.IllegalArgumentException", Check.answer(x, y -> y.reason(3)));
        x.chalk(0, 1);
        x.term();
        x.undo();
        x.restore();
        Check.answer(x, y -> y.squareOf(12, true));
        Check.same("it stays", "8 5 0", Check.reasons(x));
        Check.answer(x, y -> y.warrant(1));
        Check.same("the latest is kept", "9 0 0", Check.reasons(x));
    }

    private static void reasonOfTexts() {
        ChalkWarrants x = Check.yard("n9;n9");
        failText(x, "t;t;c0@1;c1@1");
        Check.same("of a text", "4 0 3", Check.reasons(x));
        failText(x, "t;t;c0@1;c1@");
        Check.same("a fault is no reason", "4 0 3", Check.reasons(x));
        Check.carryOut(x, "t");
        Check.same("a text that is carried out leaves it", "4 0 3", Check.reasons(x));
        Check.answer(x, y -> y.rain(1));
        Check.same("of another call", "12 0 0", Check.reasons(x));
    }

    private static void line() {
        Check.answers(BEGUN + "|c1@0;c0@2;r2", "1/3 . 0/5 . . 0/3 . . 0/3 . . 0/3", x -> Check.lineOf(x));
        ChalkWarrants x = Check.yard("n1;n1;n1;n1;n9|c4@11;c4@11;c4@11;c3@10;c2@9;c1@1;c0@0");
        Check.same("all children", "0/5 1/5 . . . . . . . 2/5 3/5 4/9", Check.lineOf(x));
        Check.same("its length", 33, x.line());
        x.rain(5);
        Check.same("the line stays", "0/5 1/5 . . . . . . . 2/5 3/5 4/9", Check.shownLine(x));
        Check.same("in place of the line before", 25, x.line());
        Check.same("in place of the line before", ". . . . . . . . . . . 4/4", Check.shownLine(x));
        for (int wrong : new int[] {-1, 25, 33, 60, Integer.MIN_VALUE, Integer.MAX_VALUE}) {
            Check.same("no such index", "throws.IndexOutOfBoundsException", Check.answer(x, y -> y.character(wrong)));
        }
        Check.same("its first and its last character", ".4", "" + x.character(0) + x.character(24));
        for (int wrong : new int[] {-1, 0, 1, Integer.MIN_VALUE, Integer.MAX_VALUE}) {
            Check.thrown("", IndexOutOfBoundsException.class, y -> y.character(wrong));
        }
        String full = "n99|c0@0;c0@1;c0@2;c0@3;c0@4;c0@5;c0@6;c0@7;c0@8;c0@9;c0@10|c0@11";
        Check.answers(full, 47, y -> y.line());
        ChalkWarrants z = Check.yard(BEGUN);
        String before = Check.yardPicture(z) + z.account(10);
        z.line();
        z.warrants();
        Check.same("the yard after it", before, Check.yardPicture(z) + z.account(10));
    }

    private static void warrants() {
        String five = "n3;n0;n0;n0;n0;c0@2;c0@5;c0@8|h4:3333;h3:3333;h2:3333;h1:3333;w3|w4;w1";
        ChalkWarrants x = Check.yard(five);
        Check.same("the warrants", 11, x.warrants());
        Check.same("the warrants", "3!3 4!3 1!3", Check.shownLine(x));
        Check.same("in place of it", 29, x.line());
        Check.carryOut(x, "w2;r1");
        Check.same("the warrants", "3!2 4!2 1!2 2!2", Check.warrantsOf(x));
        x.rain(2);
        Check.same("no warrants", 0, x.warrants());
        Check.same("the line is empty then", "throws.IndexOutOfBoundsException", Check.answer(x, y -> y.character(0)));
    }

    private static void undo() {
        ChalkWarrants x = Check.yard("n50");
        for (int count = 0; count < 9; count++) {
            x.chalk(0, count);
        }
        Check.same("8 changes are kept", 8, x.account(10));
        for (int left = 7; left >= 0; left--) {
            Check.same("undo", left, x.undo());
            Check.same("the squares", left + 1, x.account(3));
        }
        Check.same("the first one stays", "0/5 . . . . . . . . . . .", Check.lineOf(x));
        Check.same("no more", "throws.IllegalStateException", Check.answer(x, y -> y.undo()));
        Check.same("a new change", 5, x.chalk(0, 11));
        Check.same("can be undone", 0, x.undo());
        Check.thrown("", IllegalStateException.class, y -> y.undo());
        ChalkWarrants z = Check.yard("n1|n2|n3");
        z.undo();
        z.undo();
        z.child(7);
        Check.same("after undo and a change", "1 7 2", z.childOf(0, 0) + " " + z.childOf(1, 0) + " " + z.account(10));
        Check.answer(z, y -> y.term() + y.rain(1));
        Check.same("refused calls are none", 3, z.account(10));
    }

    private static void undoEachChange() {
        String texts = BEGUN + "|h1:3333";
        undone(texts, y -> y.child(7));
        undone(texts, y -> y.chalk(0, 0));
        undone(texts, y -> y.chalk(0, 2));
        undone(texts, y -> y.hop(1, 3333));
        undone(texts, y -> y.warrant(1));
        undone(texts + "|w1", y -> y.strike(1));
        undone(texts + "|w1", y -> y.rain(4));
        undone(texts + "|w1", y -> y.rain(1));
        undone(texts + "|w1;g0>1*5", y -> y.term());
        undone(texts, y -> y.give(0, 1, 5));
        undone(texts, y -> Check.carryOut(y, "n4;w1;s1;c2@0;t;r4;h0:3333;g2>0*1"));
    }

    private static void undone(String texts, Function<ChalkWarrants, Object> call) {
        ChalkWarrants x = Check.yard(texts);
        String before = Check.picture(x);
        int changes = x.account(10);
        call.apply(x);
        Check.same("the changes after " + texts + " and the call", changes + 1, x.account(10));
        Check.same("the yard is another one", false, before.equals(Check.picture(x)));
        Check.same("undo", changes, x.undo());
        Check.same("after undo", before, Check.picture(x));
    }

    private static void undoLeaves() {
        ChalkWarrants x = Check.yard("n9");
        x.line();
        failText(x, "n9;x");
        x.chalk(0, 3);
        Check.answer(x, y -> y.chalk(1, 3));
        x.warrants();
        x.line();
        Check.type(x, "t");
        x.undo();
        Check.same("the line", ". . . 0/5 . . . . . . . .", Check.shownLine(x));
        Check.same("the fault", 3, x.faultPosition());
        Check.same("the reason", "3 1 0", Check.reasons(x));
        Check.same("the buffer", 1, x.account(11));
        Check.same("the text", 1, x.commands());
    }

    private static void save() {
        ChalkWarrants x = Check.yard(BEGUN);
        String first = Check.yardPicture(x);
        Check.same("saved", 2, x.save());
        Check.same("the changes stay", 1, x.account(10));
        Check.same("the yard stays", first, Check.yardPicture(x));
        Check.carryOut(x, "n3;h1:3333;w1;t");
        Check.same("saved in place of it", 3, x.save());
        String second = Check.yardPicture(x);
        x.undo();
        Check.same("undo", first, Check.yardPicture(x));
        Check.same("restored", 3, x.restore());
        Check.same("restored", second, Check.yardPicture(x));
        Check.answers("", 0, y -> y.save());
        Check.answers("n1;n1;n1;n1;n1", 5, y -> y.save());
    }

    private static void restore() {
        ChalkWarrants x = Check.yard(BEGUN + "|h1:3333;w1");
        x.save();
        String saved = Check.yardPicture(x);
        x.line();
        Check.type(x, "t;");
        Check.answer(x, y -> y.rain(0));
        x.child(4);
        x.rain(9);
        Check.same("restored", 2, x.restore());
        Check.same("the yard", saved, Check.yardPicture(x));
        Check.same("the changes are forgotten", 0, x.account(10));
        Check.same("nothing to undo", "throws.IllegalStateException", Check.answer(x, y -> y.undo()));
        Check.same("the line stays", ". . 0/4 . . 0/4 . . 0/4 . . 0/4", Check.shownLine(x));
        Check.same("the buffer stays", 2, x.account(11));
        Check.same("the reason stays", "1 0 0", Check.reasons(x));
        x.term();
        x.term();
        Check.same("the snapshot is kept", 2, x.restore());
        Check.same("the yard", saved, Check.yardPicture(x));
        x.strike(1);
        Check.same("one change", 1, x.account(10));
        Check.same("undone", 0, x.undo());
        Check.same("the yard", saved, Check.yardPicture(x));
        Check.thrown("n9", IllegalStateException.class, y -> y.restore());
        Check.thrown("", IllegalStateException.class, y -> y.restore());
        ChalkWarrants empty = new ChalkWarrants();
        empty.save();
        empty.child(9);
        Check.same("the empty yard", 0, empty.restore());
        Check.same("the empty yard", 0, empty.account(1));
    }
}
