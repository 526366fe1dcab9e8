/** The boundaries that the promises 26 to 32 and 36 to 38 name: texts, reasons, lines, undo and the snapshot. */
public final class EdgesOfTextsTest extends Edges {
    private static final String TERMS = "t;".repeat(29) + "t";
    private static final String FREE = "line=. . . . . . . . . . . .";

    public static void main(String[] args) throws ReflectiveOperationException {
        run(EdgesOfTextsTest.class);
    }

    @Says(promise = 26, value = {"Appends a character to the text buffer.", "character: the character",
        "Returns the new length of the buffer.", "Throws IllegalStateException if the buffer contains 60 characters"})
    static void lengthsOfTheBuffer() {
        row("", "append n", 1, "text=1");
        row("~n", "append 9", 2, "text=2");
        row("~" + TERMS.substring(1), "append t", 59, "text=59");
        row("~" + TERMS, "append ;", 60, "text=60");
        tells("~" + TERMS + ";", "append t", NO_STATE);
        tells("~" + TERMS + "|append x", "append y", NO_STATE);
        tells("n9|~" + TERMS + ";|?append t", "account 11", 60);
        // What the buffer could not take is no part of the text.
        row("n9|~" + TERMS.substring(0, 56) + "n123|?append 4", "commands", NO_ARGUMENT, "text=0 fault=59");
        row("n9|~" + TERMS.substring(0, 56) + "n12;|?append t", "commands", NO_ARGUMENT, "text=0 fault=60");
        row("n9|~" + TERMS.substring(0, 56) + "c0@1|?append 1", "commands", 29,
                "s1=0/5 p0=8 chest=1 terms=28 undo=2 text=0");
        row("~" + TERMS + ";|?commands", "append n", 1, "text=1");
        // Any character is taken, the least and the greatest of them too.
        for (char sign : new char[] {0, 1, ' ', 127, 128, 255}) {
            ChalkWarrants x = new ChalkWarrants();
            Check.same("the length with the character " + (int) sign, 1, x.append(sign));
            Check.same("the call", NO_ARGUMENT, call(x, "commands"));
            Check.same("the fault", 0, x.faultPosition());
        }
    }

    @Says(promise = 27, value = {"Carries out the commands in the text buffer, one after the other; if one is refused, none is "
            + "carried out.", "Returns the number of commands."})
    static void numbersOfCommands() {
        text("n9", "", NO_ARGUMENT, "fault=0");
        text("n9", "t", 1, "terms=1 undo=2");
        text("n9", "t;t", 2, "terms=2 undo=2");
        text("n9", TERMS.substring(2), 29, "terms=29 undo=2");
        text("n9", TERMS, 30, "terms=30 undo=2");
        refusedText("n9", "t;".repeat(29) + "w0", "9 0 29");
        refusedText("n9", "w0;" + TERMS.substring(4), "9 0 0");
        // One after the other: what a command needs may come from the one ahead of it, and not from the one behind.
        text("n0;n1", "g1>0*1;c0@3", 2, "s3=0/5 p1=0 chest=1 undo=2");
        refusedText("n0;n1", "c0@3;g1>0*1", "5 1 0");
        text("n9", "c0@3;r5;c0@3", 3, "s3=0/5 p0=7 chest=2 undo=2");
        // The yard is the one before the text, if its last command is refused.
        refusedText(WANTED, "s1;n3;c2@0;h1:3333;t;r3;g0>1*1;w0", "9 0 7");
    }

    @Says(promise = 27, value = "The buffer is empty afterwards, also if an exception is thrown.")
    static void theBufferIsEmptyAfterwards() {
        row("n9|~t", "commands", 1, "terms=1 undo=2 text=0");
        row("n9|~t;", "commands", NO_ARGUMENT, "text=0 fault=2");
        row("n9|~w0", "commands", REFUSED, "text=0 reason=9 0 0");
        row("n9", "commands", NO_ARGUMENT, "fault=0");
        // The next text does not go on with the one before.
        row("n9|~t;|?commands|~t", "commands", 1, "terms=1 undo=2 text=0 fault=-1");
        row("n9|~w0|?commands|~t", "commands", 1, "terms=1 undo=2 text=0");
        row("n9|~t|commands|~;t", "commands", NO_ARGUMENT, "text=0 fault=0");
        row("n9|~" + TERMS + ";|?commands", "append t", 1, "text=1");
    }

    @Says(promise = 27, value = {"Throws IllegalArgumentException if the text has a fault",
        "Throws UnsupportedOperationException if a command is refused; the reason is kept"})
    static void faultsAndRefusals() {
        text("n9", "w0;x", NO_ARGUMENT, "fault=3");
        text("n9", "w0;", NO_ARGUMENT, "fault=3");
        text("n9", "w0;t;c0@", NO_ARGUMENT, "fault=8");
        refusedText("n9", "w0;t;c0@1", "9 0 0");
        refusedText("n9", "t;w0;h9:3", "9 0 1");
        // A fault leaves the reason as it was, and a refusal the fault position as for any text without one.
        text("n9|?child 100", "t;x", NO_ARGUMENT, "fault=2");
        row("n9|~t;x|?commands|~w0", "commands", REFUSED, "text=0 fault=-1 reason=9 0 0");
    }

    @Says(promise = 28, value = {"Returns the fault position of the text of the latest call of commands.",
        "Returns the fault position, or -1 if that text had no fault or there was no such call."})
    static void faultOfTheLatestText() {
        tells("", "faultPosition", -1);
        tells("~x", "faultPosition", -1);
        tells("?commands", "faultPosition", 0);
        tells("~x|?commands", "faultPosition", 0);
        tells("~n9;x|?commands", "faultPosition", 3);
        tells("~n9|commands", "faultPosition", -1);
        tells("~x|?commands|n9", "faultPosition", -1);
        tells("~x|?commands|~n9;n9;y|?commands", "faultPosition", 6);
        tells("~n9;x|?commands|~w0|?commands", "faultPosition", -1);
        tells("~n9;x|?commands|~t", "faultPosition", 3);
        tells("~n9;x|?commands|child 9|save|term|undo|restore", "faultPosition", 3);
        tells("~" + TERMS + ";|?commands", "faultPosition", 60);
    }

    @Says(promise = 29, value = {"Returns a number of the reason that is kept.", "what: 0 for the reason, 1 for its detail, 2 "
            + "for the index of the command", "Returns the number."})
    static void numbersOfTheReason() {
        reasonIs("?child -1", 1, 0, 0);
        reasonIs("?child 100", 1, 0, 0);
        reasonIs("?term", 13, 0, 0);
        reasonIs("?hop 0 3333", 3, 0, 0);
        reasonIs("n9|?hop 0 333", 8, 8, 0);
        reasonIs("n9|~t;t;h0:333|?commands", 8, 8, 2);
        reasonIs("n9|~t;t;h0:333|?commands|?hop 0 33", 8, 5, 0);
        // The latest one is kept, and what is not refused leaves it.
        reasonIs("n9|?hop 0 333|?rain 1", 12, 0, 0);
        reasonIs("n9|?hop 0 333|term", 8, 8, 0);
        reasonIs("n9|?hop 0 333|t;t", 8, 8, 0);
        reasonIs("n9|?hop 0 333|~t;x|?commands", 8, 8, 0);
        reasonIs("n9|?hop 0 333|?squareOf 12 true", 8, 8, 0);
        reasonIs("n9|?hop 0 333|?wouldTread 0 3", 8, 8, 0);
        reasonIs("n9|save|?hop 0 333|undo|restore", 8, 8, 0);
        reasonIs("n99|~" + "t;".repeat(29) + "w0|?commands", 9, 0, 29);
    }

    private static void reasonIs(String before, int... due) {
        for (int what = 0; what < 3; what++) {
            tells(before, "reason " + what, due[what]);
        }
    }

    @Says(promise = 29, value = "Throws IllegalArgumentException if what is not from 0 to 2")
    static void noSuchNumberOfTheReason() {
        for (String wrong : new String[] {"MIN", "-1", "3", "4", "MAX"}) {
            tells("?term", "reason " + wrong, NO_ARGUMENT);
            tells("", "reason " + wrong, NO_ARGUMENT);
        }
        tells("?term", "reason 0", 13);
        tells("?term", "reason 2", 0);
    }

    @Says(promise = 29, value = "Throws NoSuchElementException if nothing was refused")
    static void nothingWasRefused() {
        for (String what : new String[] {"0", "1", "2"}) {
            tells("", "reason " + what, NO_ELEMENT);
            tells("n9;c0@0|term|rain 1", "reason " + what, NO_ELEMENT);
            tells("n9|~x|?commands", "reason " + what, NO_ELEMENT);
            tells("n9|?squareOf 12 true|?wouldEnd 0|?step 0 9|?wouldTread 0 3", "reason " + what, NO_ELEMENT);
            tells("?undo|?restore", "reason " + what, NO_ELEMENT);
        }
        tells("?rain 1", "reason 0", 12);
    }

    @Says(promise = 30, value = {"Writes the yard, in place of the line before: for each square \".\" if it is free, or the "
            + "child who owns it, \"/\" and its chalk, with a blank between two.", "Returns the length of the line."})
    static void lineOfTheYard() {
        row("", "line", 23, FREE);
        row("n9;c0@0", "line", 25, "line=0/5 . . . . . . . . . . .");
        row("n9;c0@11", "line", 25, "line=. . . . . . . . . . . 0/5");
        row("n9;c0@5;r4", "line", 25, "line=. . . . . 0/1 . . . . . .");
        row("n9;c0@5;r5", "line", 23, FREE);
        row("n9;c0@5;c0@5;c0@5", "line", 25, "line=. . . . . 0/9 . . . . . .");
        row(FIVE + ";c4@0;c3@1", "line", 27, "line=4/5 3/5 . . . . . . . . . .");
        row("n99" + ALL, "line", 47, "line=0/5 0/5 0/5 0/5 0/5 0/5 0/5 0/5 0/5 0/5 0/5 0/5");
        // In place of the line before, be it longer or shorter.
        row("n99" + ALL + "|line|rain 5", "line", 23, FREE);
        row("n9|line|c0@0", "line", 25, "line=0/5 . . . . . . . . . . .");
        row(WANTED + "|warrants", "line", 31, "line=. . 0/4 . . 0/4 . . 0/4 . . 0/4");
        tells("n9;c0@0|line", "line", 25);
        tells("n9;c0@0|line|rain 5", "character 24", ".");
    }

    @Says(promise = 31, value = {"Writes the warrants in their order, in place of the line before: for each the child, \"!\" "
            + "and its chalk, with a blank between two.", "Returns the length of the line."})
    static void lineOfTheWarrants() {
        tells("", "warrants", 0);
        tells(TROD, "warrants", 0);
        row(TROD + "|line", "warrants", 0, "line=");
        row(WANTED, "warrants", 3, "line=1!4");
        row(WANTED + "|r3", "warrants", 3, "line=1!1");
        tells(WANTED + "|r4", "warrants", 0);
        row(NINE + "|w1", "warrants", 3, "line=1!9");
        row(THREE + "|w2;w1", "warrants", 7, "line=2!3 1!3");
        row(THREE + "|w2;w1;w3", "warrants", 11, "line=2!3 1!3 3!3");
        row(THREE + "|w2;w1;w3|line", "warrants", 11, "line=2!3 1!3 3!3");
        row(THREE + "|w2;w1;w3|warrants|strike 1", "warrants", 7, "line=2!3 3!3");
        row("n9;n9;n9;n9;n9;c0@2;c0@5;c0@8;c1@11;c1@10;c1@9|h1:3333;h2:3333;h3:3333;h4:3333;h0:333111|w4;w3;w2;w1;w0",
                "warrants", 19, "line=4!4 3!4 2!4 1!3 0!3");
    }

    @Says(promise = 32, value = {"Returns a character of the line, which is empty at first.", "index: the index, from 0",
        "Returns the character.", "Throws IndexOutOfBoundsException if there is no such index"})
    static void charactersOfTheLine() {
        for (String wrong : new String[] {"MIN", "-1", "0", "1", "MAX"}) {
            tells("", "character " + wrong, NO_INDEX);
            tells(TROD + "|warrants", "character " + wrong, NO_INDEX);
        }
        lineIs("line", ". . . . . . . . . . . .");
        lineIs("n9;c0@0|line", "0/5 . . . . . . . . . . .");
        lineIs(WANTED + "|line|warrants", "1!4");
        tells("n99" + ALL + "|line", "character 46", "5");
        tells("n99" + ALL + "|line", "character 47", NO_INDEX);
        // A shorter line has none of the characters of the longer one before it.
        tells("n99" + ALL + "|line|rain 5|line", "character 22", ".");
        tells("n99" + ALL + "|line|rain 5|line", "character 23", NO_INDEX);
        tells("n99" + ALL + "|line|warrants", "character 0", NO_INDEX);
    }

    private static void lineIs(String before, String due) {
        for (int index = 0; index < due.length(); index++) {
            tells(before, "character " + index, due.charAt(index));
        }
        for (String wrong : new String[] {"MIN", "-1", "" + due.length(), "" + (due.length() + 1), "59", "60", "MAX"}) {
            tells(before, "character " + wrong, NO_INDEX);
        }
    }

    @Says(promise = 36, value = {"Undoes the latest call that can be undone.",
        "Returns the number of calls that can still be undone."})
    static void undoneCalls() {
        row("n9", "undo", 0, "children=0 undo=0 no p0 no t0 no w0 no h0 no o0");
        row("n9|c0@0", "undo", 1, "s0=. p0=9 chest=0 undo=1");
        row("n9|c0@0|t|t|t|t|t|t", "undo", 7, "terms=5 undo=7");
        row("n9|c0@0|t|t|t|t|t|t|t", "undo", 7, "terms=6 undo=7");
        row("n9|c0@0|t|t|t|t|t|t|t|undo|undo|undo|undo|undo|undo|undo", "undo", 0, "s0=. p0=9 chest=0 undo=0");
        // A text counts as one call, however many its commands are.
        row("n9|c0@0;c0@1;t;t", "undo", 1, "s0=. s1=. p0=9 chest=0 terms=0 undo=1");
        // What is refused, or tells only, does not count.
        row("n9|c0@0|?chalk 0 12|line|~t", "undo", 1, "s0=. p0=9 chest=0 undo=1");
        // After an undo another call takes the place of the one undone.
        row("n9|c0@0|undo|c0@5", "undo", 1, "s5=. p0=9 chest=0 undo=1");
        tells("n9|c0@0|undo|undo", "account 0", 0);
    }

    @Says(promise = 36, value = "Throws IllegalStateException if there is none")
    static void nothingToUndo() {
        tells("", "undo", NO_STATE);
        tells("?child 100", "undo", NO_STATE);
        tells("n9|undo", "undo", NO_STATE);
        tells("save|line|~x|?commands", "undo", NO_STATE);
        tells("n9|save|restore", "undo", NO_STATE);
        tells("n9|t|t|t|t|t|t|t|t|undo|undo|undo|undo|undo|undo|undo|undo", "undo", NO_STATE);
        tells("n9|t|t|t|t|t|t|t|t|undo|undo|undo|undo|undo|undo|undo|undo|?undo", "account 0", 1);
        row("n9|undo|?undo", "child 3", 0, "p0=3 children=1 undo=1");
    }

    @Says(promise = 37, value = {"Saves all that can be undone, in place of an earlier snapshot.",
        "Returns how many children there are."})
    static void snapshots() {
        tells("", "save", 0);
        tells("n9", "save", 1);
        tells("n1;n2;n3;n4", "save", 4);
        tells(FIVE, "save", 5);
        tells(WANTED, "save", 2);
        row("save|n9|save|n9", "restore", 1, "children=1 undo=0 no p1 no t1 no w1 no h1 no o1");
        row("n9|save|n9|undo|undo|save|n7", "restore", 0, "children=0 undo=0 no p0 no t0 no w0 no h0 no o0");
        // All that can be undone is saved.
        row(WANTED + "|save|n3;s1;r4;h0:3333;t;t;c1@0;g1>0*1", "restore", 2, "s0=. s2=0/4 s5=0/4 s8=0/4 s11=0/4 p0=5 h0=0"
                + " p1=9 w1=4 order=1 children=2 chest=4 terms=0 undo=0 no p2 no t2 no w2 no h2 no o2");
        // Saving does not forget what can be undone.
        row("n9|c0@0|save", "undo", 1, "s0=. p0=9 chest=0 undo=1");
        row("n9|c0@0|save|undo", "restore", 1, "s0=0/5 p0=8 chest=1 undo=0");
    }

    @Says(promise = 38, value = {"Restores what was saved; the snapshot is kept.", "Returns how many children there are."})
    static void restored() {
        row("save|n9", "restore", 0, "children=0 undo=0 no p0 no t0 no w0 no h0 no o0");
        row("n9|save|c0@0", "restore", 1, "s0=. p0=9 chest=0 undo=0");
        row(FIVE + "|save|t", "restore", 5, "terms=0 undo=0");
        row("n9|save|c0@0|restore|c0@1", "restore", 1, "s1=. p0=9 chest=0 undo=0");
        tells("n9|save|c0@0|restore|c0@1|undo", "restore", 1);
        row("n9|save|c0@0|restore|t|t|t|t|t|t|t|t|t", "restore", 1, "terms=0 undo=0");
        // What is done after a restore does not get into the snapshot.
        row(WANTED + "|save|s1;r4|restore|t;r4", "restore", 2, "s2=0/4 s5=0/4 s8=0/4 s11=0/4 p0=5 p1=9 w1=4 order=1"
                + " chest=4 washed=0 terms=0 undo=0");
        row(WANTED + "|save|s1|restore", "strike 1", 5, "p1=5 w1=0 order=none chest=8 undo=1");
    }

    @Says(promise = 38, value = "Throws IllegalStateException if there is no snapshot")
    static void noSnapshot() {
        tells("", "restore", NO_STATE);
        tells(WANTED + "|~t|line", "restore", NO_STATE);
        tells("n9|undo|?restore", "restore", NO_STATE);
        tells("save", "restore", 0);
        tells("save|restore", "restore", 0);
    }
}
