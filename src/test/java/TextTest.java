/** The section TEXT of the document and promises 2, 3, 4 and 13: the text and its figure. */
public final class TextTest {
    private static final String DIGITS = "0123456789";

    public static void main(String[] args) {
        hundredCharacters();
        figureAsText();
        charactersAllowed();
        numbersAllowed();
        firstError();
        endsTooSoon();
        signaturesDoNotMatter();
        append();
        appendReturns();
        appendRefusesCodes();
        appendRefusesMore();
        clearText();
        checks();
        errorOrNone();
        draw();
        drawKeepsText();
        drawReturns();
        drawRefused();
        Check.end();
    }

    private static void hundredCharacters() {
        Check.says("TEXT", "The object has a text buffer of at most 100 characters.");
        RuledStrokes x = new RuledStrokes();
        for (int length = 1; length <= 100; length++) {
            Check.due("append", x.append('1'), length);
        }
        Check.refused("101 characters", Check.STATE, () -> x.append('1'));
        Check.due("100 characters", x.clearText(), 100);
        Check.due("room again", x.append('1'), 1);
        String full = "1,1-".repeat(11) + "1,1/" + "1,1-".repeat(11) + "1,1/" + "11,1";
        RuledStrokes y = new RuledStrokes();
        Scenes.write(y, full);
        Check.due("a figure of 100 characters", y.errorPosition(), -1);
        y.draw();
        Check.dueAbout("a figure of 100 characters", y, 3, 25, 0, 2);
        Check.due("its length", y.clearText(), 100);
    }

    private static void dueError(String text, int want) {
        RuledStrokes x = new RuledStrokes();
        Scenes.write(x, text);
        Check.due("error position of '" + text + "'", x.errorPosition(), want);
    }

    private static void figureAsText() {
        Check.says("TEXT", "A figure as a text is 1 to 3 strokes with / between them; a stroke is 1 to 12 points "
                + "with - between them; a point is two numbers from 0 to 60, without zeros ahead, with a comma "
                + "between them (a - behind the 12th point of a stroke, and a / behind the third stroke, are not "
                + "allowed).");
        dueError("", 0);
        dueError("1,1", -1);
        dueError("1,1/2,2", -1);
        dueError("1,1/2,2/3,3", -1);
        dueError("1,1-2,2/3,3-4,4/5,5", -1);
        dueError("1,1/2,2/3,3/", 11);
        dueError("1,1/2,2/3,3/4,4", 11);
        dueError("1,1/2,2/3,3-4,4/", 15);
        for (int points = 1; points <= 12; points++) {
            dueError("1,1-".repeat(points - 1) + "1,1", -1);
            dueError("1,1/" + "1,1-".repeat(points - 1) + "1,1", -1);
        }
        dueError(Scenes.TWELVE + "-", 47);
        dueError(Scenes.TWELVE + "-1,1", 47);
        dueError(Scenes.TWELVE + "/1,1", -1);
        dueError(Scenes.TWELVE + "/" + Scenes.TWELVE, -1);
        dueError(Scenes.TWELVE + "/" + Scenes.TWELVE + "-", 95);
        dueError("9,9/8,8/" + Scenes.TWELVE, -1);
        dueError("9,9/8,8/" + Scenes.TWELVE + "-", 55);
        dueError("0,0-60,60-0,60-60,0", -1);
        dueError("01,1", 1);
        dueError("00,1", 1);
        dueError("1,01", 3);
        dueError("1,00", 3);
        dueError("1-1", 1);
        dueError("1/1", 1);
        dueError("1.1", 1);
        dueError("1,1,1", 3);
        dueError("1,1;1,1", 3);
    }

    /** Which characters are allowed behind the beginning of a text, and no others. */
    private static void dueAllowed(String begun, String allowed) {
        for (int c = 0; c <= 255; c++) {
            RuledStrokes x = new RuledStrokes();
            Scenes.write(x, begun);
            x.append(c);
            boolean isRefused = x.errorPosition() == begun.length();
            Check.due("'" + begun + "' and the character " + c, isRefused ? 0 : 1, allowed.indexOf(c) >= 0 ? 1 : 0);
        }
    }

    private static void charactersAllowed() {
        Check.says("TEXT", "The error position is the index of the first character that these rules do not allow "
                + "at its place");
        dueAllowed("", DIGITS);
        dueAllowed("0", ",");
        dueAllowed("1", DIGITS + ",");
        dueAllowed("5", DIGITS + ",");
        dueAllowed("6", "0,");
        dueAllowed("7", ",");
        dueAllowed("9", ",");
        dueAllowed("10", ",");
        dueAllowed("59", ",");
        dueAllowed("60", ",");
        dueAllowed("1,", DIGITS);
        dueAllowed("1,0", "-/");
        dueAllowed("1,1", DIGITS + "-/");
        dueAllowed("1,5", DIGITS + "-/");
        dueAllowed("1,6", "0-/");
        dueAllowed("1,7", "-/");
        dueAllowed("1,10", "-/");
        dueAllowed("1,60", "-/");
        dueAllowed("1,1-", DIGITS);
        dueAllowed("1,1-6", "0,");
        dueAllowed("1,1/", DIGITS);
        dueAllowed("1,1/0", ",");
        dueAllowed(Scenes.TWELVE, "0/");
        dueAllowed("1,1/1,1/0,0", "-");
        dueAllowed("1,1/1,1/" + Scenes.TWELVE, "0");
    }

    private static void numbersAllowed() {
        Check.says("TEXT", "(a digit is not allowed if no number that is allowed begins with it and those before "
                + "it)");
        for (int number = 0; number <= 999; number++) {
            int error = number <= 60 ? -1 : number <= 99 ? 1 : number <= 609 ? 2 : 1;
            dueError(number + ",1", error);
            dueError("1," + number, error < 0 ? -1 : error + 2);
        }
    }

    private static void firstError() {
        Check.says("TEXT", "The error position is the index of the first character that these rules do not allow "
                + "at its place (a digit is not allowed if no number that is allowed begins with it and those "
                + "before it); if the text ends too soon, it is the length of the text.");
        dueError("x", 0);
        dueError("xx", 0);
        dueError("-1,1", 0);
        dueError("1,1x1,1x", 3);
        dueError("61,61", 1);
        dueError("1,1-2,61/70,1", 7);
        dueError("1,1//2,2", 4);
        dueError("1,1--2,2", 4);
        dueError("1,1-/2,2", 4);
        dueError("1,,1", 2);
        dueError("1,-1", 2);
        dueError("1, 1", 2);
        dueError(" 1,1", 0);
        dueError("1,1 ", 3);
        dueError("1,1" + (char) 255, 3);
        dueError("1,1" + (char) 0, 3);
        dueError("1,1-1x", 5);
        dueError("1,1-".repeat(11) + "1,1/" + "1,1-".repeat(11) + "1,1/" + "11,x", 99);
    }

    private static void endsTooSoon() {
        Check.says("TEXT", "if the text ends too soon, it is the length of the text.");
        dueError("", 0);
        dueError("0", 1);
        dueError("60", 2);
        dueError("1,", 2);
        dueError("1,1-", 4);
        dueError("1,1/", 4);
        dueError("1,1-2", 5);
        dueError("1,1-2,", 6);
        dueError("1,1/2,2/", 8);
        dueError("1,1-".repeat(11) + "1,1/" + "1,1-".repeat(11) + "1,1/" + "1,1-", 100);
    }

    private static void signaturesDoNotMatter() {
        Check.says("TEXT", "Signatures do not matter for it.");
        dueError("0,0-60,60-0,0-60,60-60,19", -1);
        dueError("0,0-60,60-0,0-60,60-0,0-60,60-0,0-60,60-0,0-60,60/1,1", -1);
        RuledStrokes x = new RuledStrokes();
        x.set(0, 5);
        Scenes.write(x, "0,0-60,60-0,0");
        Check.due("48 signs by another ruling", x.errorPosition(), -1);
    }

    private static void append() {
        Check.says("Promise 2", "Appends a character to the text buffer.");
        Check.says("Promise 2", "`c`: character code, 0 to 255");
        RuledStrokes x = new RuledStrokes();
        x.append('1');
        x.append(',');
        Check.due("behind the others", x.errorPosition(), 2);
        x.append('2');
        Check.due("and again", x.errorPosition(), -1);
        x.append('/');
        Check.due("and again", x.errorPosition(), 4);
        RuledStrokes y = new RuledStrokes();
        for (int c = 0; c <= 255; c++) {
            Check.due("append(" + c + ")", y.append(c), 1);
            Check.due("error position of " + c, y.errorPosition(), c >= '0' && c <= '9' ? 1 : 0);
            y = new RuledStrokes();
        }
    }

    private static void appendReturns() {
        Check.says("Promise 2", "Returns the new length of the text.");
        RuledStrokes x = new RuledStrokes();
        Check.due("the first", x.append(0), 1);
        Check.due("the second", x.append(255), 2);
        for (int length = 3; length <= 100; length++) {
            Check.due("append", x.append('/'), length);
        }
    }

    private static void appendRefusesCodes() {
        Check.says("Promise 2", "Throws `IllegalArgumentException` if c is out of range");
        RuledStrokes x = new RuledStrokes();
        for (int c : new int[] {-1, 256, 256 + '1', -255, Integer.MIN_VALUE, Integer.MAX_VALUE}) {
            Check.refused("append(" + c + ")", Check.ARGUMENT, () -> x.append(c));
        }
        Check.due("nothing is appended", x.clearText(), 0);
    }

    private static void appendRefusesMore() {
        Check.says("Promise 2", "Throws `IllegalStateException` if the text already has 100 characters");
        RuledStrokes x = new RuledStrokes();
        for (int length = 1; length <= 99; length++) {
            x.append('1');
        }
        Check.due("with 99", x.append('1'), 100);
        Check.refused("with 100", Check.STATE, () -> x.append('1'));
        Check.refused("with 100 still", Check.STATE, () -> x.append(0));
        Check.due("nothing is appended", x.clearText(), 100);
    }

    private static void clearText() {
        Check.says("Promise 3", "Empties the text buffer.");
        RuledStrokes x = new RuledStrokes();
        Scenes.write(x, "1,2-3");
        x.clearText();
        Check.due("empty", x.errorPosition(), 0);
        Scenes.write(x, "7,7");
        Check.due("nothing is left of what was there", x.errorPosition(), -1);
        Check.says("Promise 3", "Returns the previous length of the text.");
        Check.due("with 3", x.clearText(), 3);
        Check.due("empty already", x.clearText(), 0);
        Check.due("append then", x.append('7'), 1);
        Check.due("with 1", x.clearText(), 1);
        for (int length = 1; length <= 100; length++) {
            x.append(' ');
        }
        Check.due("full", x.clearText(), 100);
    }

    private static void checks() {
        Check.says("Promise 4", "Checks the text.");
        RuledStrokes x = new RuledStrokes();
        Scenes.write(x, "1,1-2");
        Check.due("once", x.errorPosition(), 5);
        Check.due("again", x.errorPosition(), 5);
        Check.due("the text stays", x.append(','), 6);
        Check.due("the figure at hand stays", x.about(0), 0);
        Check.refused("no action", Check.STATE, x::undo);
    }

    private static void errorOrNone() {
        Check.says("Promise 4", "Returns the error position of the text; NONE if it is a figure.");
        dueError("", 0);
        dueError("0,0", -1);
        dueError("60,60", -1);
        dueError("61,60", 1);
        dueError("60,61", 4);
        dueError("1,1-", 4);
        dueError(Scenes.FORTY, -1);
    }

    private static void draw() {
        Check.says("Promise 13", "Makes the figure of the text the one at hand; no stroke goes on.");
        RuledStrokes x = new RuledStrokes();
        Scenes.draw(x, "5,5-25,45/45,5-40,5/1,1");
        Check.dueAbout("drawn", x, 3, 5, 0, 8);
        Check.dueSigns("drawn", x, "10110144");
        Scenes.draw(x, "0,60");
        Check.dueAbout("instead of what was there", x, 1, 1, 0, 0);
        x.point(60, 0);
        Check.dueAbout("the next point begins a stroke", x, 2, 2, 1, 1);
        Scenes.draw(x, "60,0-0,60");
        Check.dueAbout("a stroke that went on goes on no more", x, 1, 2, 0, 12);
        RuledStrokes y = new RuledStrokes();
        Scenes.draw(y, Scenes.TWELVE + "/" + Scenes.TWELVE);
        Check.dueAbout("12 points", y, 2, 24, 0, 1);
        y.point(1, 1);
        Check.refused("three strokes", Check.STATE, () -> {
            y.lift();
            return y.point(1, 1);
        });
        RuledStrokes z = new RuledStrokes();
        z.set(0, 20);
        Scenes.draw(z, "0,0-60,60-0,0-60,60-0,0-60,60");
        Check.due("by another ruling", z.about(3), 30);
    }

    private static void drawKeepsText() {
        Check.says("Promise 13", "Keeps the text.");
        RuledStrokes x = new RuledStrokes();
        Scenes.draw(x, "5,5-15,5");
        Check.due("drawn", x.errorPosition(), -1);
        Check.due("drawn again", x.draw(), 1);
        Check.due("its length", x.append('-'), 9);
        Check.refused("no figure", Check.STATE, x::draw);
        Check.due("its length still", x.clearText(), 9);
    }

    private static void drawReturns() {
        Check.says("Promise 13", "Returns the number of signs then.");
        RuledStrokes x = new RuledStrokes();
        Check.due("none", Scenes.draw(x, "0,0"), 0);
        Check.due("a 4", Scenes.draw(x, "0,0/0,0"), 1);
        Check.due("two of each", Scenes.draw(x, "0,0-10,10/0,0-10,10"), 5);
        Check.due("40", Scenes.draw(x, Scenes.FORTY), 40);
        Check.due("not those that were there", Scenes.draw(x, "0,0-9,10"), 1);
    }

    private static void drawRefused() {
        Check.says("Promise 13", "Throws `IllegalStateException` if the text is not a figure, or it would have "
                + "more than 40 signs");
        String[] texts = {"", "1", "1,1-", "1,1/", "61,1", "01,1", "1,1/2,2/3,3/4,4", "1,1x", "x",
            Scenes.TWELVE + "-1,1", "0,0-60,60-0,0-60,60-60,19", Scenes.FORTY + "/1,1",
            "0,0-60,60-0,0-60,60-0,0-60,60-0,0-60,60-0,0-60,60"};
        for (String text : texts) {
            RuledStrokes x = new RuledStrokes();
            x.point(3, 3);
            Scenes.write(x, text);
            Check.refused("draw '" + text + "'", Check.STATE, x::draw);
            Check.dueAbout("what was at hand stays", x, 1, 1, 1, 0);
        }
        RuledStrokes y = new RuledStrokes();
        Check.due("40 signs", Scenes.draw(y, Scenes.FORTY), 40);
        Check.due("39 signs and a 4", Scenes.draw(y, "0,0-60,60-0,0-60,60-60,30/1,1"), 40);
        y.set(0, 20);
        Check.due("by another ruling", Scenes.draw(y, "0,0-60,60-0,0-60,60-60,19"), 21);
        RuledStrokes z = new RuledStrokes();
        z.set(0, 5);
        Scenes.write(z, "0,0-60,60-0,0");
        Check.refused("48 signs by another ruling", Check.STATE, z::draw);
    }
}
