import java.io.IOException;

/** What the document says of texts, and the promises 17 to 20: each sentence with a boundary case has its own test. */
public final class TextsTest {
    private static final int IMPOSSIBLE = RememberedCells.NOT_POSSIBLE;
    private static final int INVALID = RememberedCells.INVALID_ARGUMENT;
    private static final int LIMIT = RememberedCells.LIMIT_REACHED;
    private static final int MISSING = RememberedCells.NOT_FOUND;
    private static final String LETTERS = "abcdefghij";
    private static final String DIGITS = "0123456789";
    /** Fourteen whole definitions in 59 characters. */
    private static final String ALMOST_FULL = "a=1;a=1;a=1;a=1;a=1;a=1;a=1;a=1;a=1;a=1;a=1;a=1;a=1;b=1234;";

    private final Sentences said = new Sentences();

    private TextsTest() throws IOException {
    }

    public static void main(String[] args) throws IOException {
        TextsTest test = new TextsTest();
        test.said.in("Terms");
        test.length();
        test.letters();
        test.characters();
        test.numbers();
        test.formulas();
        test.ends();
        test.positions();
        test.causes();
        test.said.in("Promise 17: type");
        test.type();
        test.said.in("Promise 18: clearText");
        test.clearText();
        test.said.in("Promise 19: fault");
        test.fault();
        test.said.in("Promise 20: play");
        test.play();
        test.playRefused();
        test.said.end();
    }

    /** Checks the fault of a text: its position and cause, or MISSING twice; and that play() is possible if none. */
    private void fault(String text, int position, int cause) {
        RememberedCells x = Scenes.written(text);
        said.due("fault(0) of " + text, x.fault(0), position);
        said.due("fault(1) of " + text, x.fault(1), cause);
        said.due("play() of " + text + " is possible", x.play() >= 0 ? 1 : 0, position == MISSING ? 1 : 0);
    }

    private void whole(String text) {
        fault(text, MISSING, MISSING);
    }

    // ---- terms

    private void length() {
        said.that("There is a text of at most 60 characters, initially empty");
        said.due("count(9) at first", new RememberedCells().count(9), 0);
        said.due("fault(0) at first", new RememberedCells().fault(0), MISSING);
        RememberedCells x = new RememberedCells();
        for (int length = 1; length <= 60; length++) {
            said.due("type", x.type(' '), length);
            said.due("count(9)", x.count(9), length);
        }
        said.due("the 61st", x.type(' '), LIMIT);
        said.due("count(9) behind it", x.count(9), 60);
        whole(ALMOST_FULL);
        whole("a=1;a=1;a=1;a=1;a=1;a=1;a=1;a=1;a=1;a=1;a=1;a=1;a=1;b=12345;");
        whole("a=1;a=1;a=1;a=1;a=1;a=1;a=1;a=1;a=1;a=1;a=1;a=1;a=1;a=1;b=1;");
    }

    private void letters() {
        said.that("told as the letters a to j in texts");
        for (int cell = 0; cell <= 9; cell++) {
            char letter = LETTERS.charAt(cell);
            RememberedCells x = Scenes.played(letter + "=5;");
            for (int other = 0; other <= 9; other++) {
                said.due(letter + "=5; cellOf(" + other + ", 1)", x.cellOf(other, 1), other == cell ? 5 : 0);
            }
            x = Scenes.played("a=" + letter + "?b:c;b=a?" + letter + ":c;c=a?b:" + letter + ";d=" + letter + "-a;e=a-"
                + letter + ";");
            int[] told = {x.cellOf(0, 2), x.cellOf(1, 3), x.cellOf(2, 4), x.cellOf(3, 2), x.cellOf(4, 3)};
            for (int place = 0; place < told.length; place++) {
                said.due(letter + " at the place " + place, told[place], cell);
            }
        }
        for (char beyond : new char[] {'`', 'k', 'A', 'J', 'z'}) {
            fault(beyond + "=1;", 0, 0);
            fault("a=" + beyond + "+b;", 0, 2);
            fault("a=b+" + beyond + ";", 0, 4);
            fault("a=b?" + beyond + ":c;", 0, 4);
            fault("a=b?c:" + beyond + ";", 0, 6);
        }
    }

    private void characters() {
        said.that("definitions, each followed by \";\": a letter (the cell), \"=\", and a number");
        goingOn("", LETTERS);
        goingOn("a", "=");
        goingOn("a=", LETTERS + DIGITS + "-");
        said.that("a number (1 to 5 digits, perhaps with \"-\" ahead of it, 0 ahead allowed)");
        goingOn("a=-", DIGITS);
        goingOn("a=1", DIGITS + ";");
        goingOn("a=-1", DIGITS + ";");
        goingOn("a=1234", DIGITS + ";");
        goingOn("a=-1234", DIGITS + ";");
        goingOn("a=12345", ";");
        goingOn("a=-12345", ";");
        goingOn("a=00000", ";");
        said.that("or a letter, \"+\", \"-\", \"*\" or \"^\" (the greater one), and a letter");
        goingOn("a=b", "+-*^?");
        for (char operator : "+-*^".toCharArray()) {
            goingOn("a=b" + operator, LETTERS);
            goingOn("a=b" + operator + "c", ";");
        }
        said.that("or a letter, \"?\", a letter, \":\", and a letter");
        goingOn("a=b?", LETTERS);
        goingOn("a=b?c", ":");
        goingOn("a=b?c:", LETTERS);
        goingOn("a=b?c:d", ";");
    }

    /** Checks each character behind the beginning of a definition: only those that fit go on. */
    private void goingOn(String start, String fitting) {
        for (char character = 32; character <= 126; character++) {
            String text = start + character;
            if (fitting.indexOf(character) < 0) {
                fault(text, 0, start.length());
                fault("j=1;" + text + ";", 4, start.length());
            } else if (character == ';') {
                whole(text);
            } else {
                fault(text, 0, text.length());
            }
        }
    }

    private void numbers() {
        said.that("a number (1 to 5 digits, perhaps with \"-\" ahead of it, 0 ahead allowed)");
        String[] numbers = {"0", "7", "-7", "10", "-10", "999", "1000", "-1000", "99999", "-99999", "00000", "-0",
            "-00000", "00001", "-00001", "0100", "01", "10000", "-10000"};
        int[] values = {0, 7, -7, 10, -10, 999, 1000, -1000, 99999, -99999, 0, 0, 0, 1, -1, 100, 1, 10000, -10000};
        for (int i = 0; i < numbers.length; i++) {
            RememberedCells x = new RememberedCells();
            x.define(3, 55);
            Scenes.write(x, "d=" + numbers[i] + ";");
            said.due("play() of d=" + numbers[i] + ";", x.play(), 2);
            said.due("d=" + numbers[i] + "; cellOf(3, 0)", x.cellOf(3, 0), 0);
            said.due("d=" + numbers[i] + "; cellOf(3, 1)", x.cellOf(3, 1), values[i]);
        }
        fault("a=;", 0, 2);
        fault("a=-;", 0, 3);
        fault("a=123456;", 0, 7);
        fault("a=-123456;", 0, 8);
        fault("a=000001;", 0, 7);
        fault("a=--1;", 0, 3);
        fault("a=+1;", 0, 2);
        fault("a=1-1;", 0, 3);
        fault("a= 1;", 0, 2);
        fault("a=1 ;", 0, 3);
        fault("a=1+b;", 0, 3);
        fault("a=b+1;", 0, 4);
        fault("a=-b;", 0, 3);
    }

    private void formulas() {
        said.that("or a letter, \"+\", \"-\", \"*\" or \"^\" (the greater one), and a letter");
        String operators = "+-*^";
        for (int kind = 0; kind <= 3; kind++) {
            RememberedCells x = Scenes.played("j=b" + operators.charAt(kind) + "i;");
            cell(x, 9, kind, 1, 8, MISSING);
        }
        fault("a=b;", 0, 3);
        fault("a=b+;", 0, 4);
        fault("a=b+c+d;", 0, 5);
        fault("a=b++c;", 0, 4);
        fault("a=b+-c;", 0, 4);
        fault("a=b/c;", 0, 3);
        said.that("or a letter, \"?\", a letter, \":\", and a letter");
        cell(Scenes.played("a=j?i:h;"), 0, 4, 9, 8, 7);
        cell(Scenes.played("a=a?a:a;"), 0, 4, 0, 0, 0);
        fault("a=b?;", 0, 4);
        fault("a=b?c;", 0, 5);
        fault("a=b?c:;", 0, 6);
        fault("a=b:c?d;", 0, 3);
        fault("a=b+c:d;", 0, 5);
        fault("a=b?1:c;", 0, 4);
        fault("a=b?c:1;", 0, 6);
        fault("a=b?c:d:e;", 0, 7);
    }

    private void cell(RememberedCells x, int cell, int kind, int first, int second, int third) {
        int[] want = {kind + 1, MISSING, first, second, third};
        for (int what = 0; what <= 4; what++) {
            said.due("kind " + kind + ", cellOf(" + cell + ", " + what + ")", x.cellOf(cell, what), want[what]);
        }
    }

    private void ends() {
        said.that("definitions, each followed by \";\"");
        whole("");
        whole("a=1;");
        whole("a=1;b=a+a;c=a?b:c;");
        fault("a=1", 0, 3);
        fault("a=12345", 0, 7);
        fault("a=b+c", 0, 5);
        fault("a=b?c:d", 0, 7);
        fault("a=1;b=2", 4, 3);
        fault(";", 0, 0);
        fault("a=1;;", 4, 0);
        fault(";a=1;", 0, 0);
        fault("a=1,b=2;", 0, 3);
        fault("a=1:", 0, 3);
        fault(" a=1;", 0, 0);
        fault("a=1; b=2;", 4, 0);
        fault("a=1; ", 4, 0);
    }

    private void positions() {
        said.that("The fault of the text is the position, from 0, of the first character of the first definition");
        fault("x", 0, 0);
        fault("a=1;x", 4, 0);
        fault("a=x;b=y;", 0, 2);
        fault("a=1;b=x;c=y;", 4, 2);
        fault("a=1;b=2;c=", 8, 2);
        fault("a=b?c:d;b=-12345;c=d+e;x", 23, 0);
        said.that("that is not of this form, its \";\" included");
        fault("a=1;b=c+d", 4, 5);
        fault("a=1;b=c+de=1;", 4, 5);
        said.that("The fault of the text is the position, from 0");
        fault(ALMOST_FULL + "x", 59, 0);
        fault(ALMOST_FULL + ";", 59, 0);
        said.that("(of one that the text ends too early it is its length)");
        fault(ALMOST_FULL + "a", 59, 1);
    }

    private void causes() {
        said.that("its cause is at which character of the definition, from 0, it breaks off");
        fault("x=1;", 0, 0);
        fault("ab=1;", 0, 1);
        fault("a==1;", 0, 2);
        fault("a=b=c;", 0, 3);
        fault("a=b+=c;", 0, 4);
        fault("a=b+cd;", 0, 5);
        fault("a=b?c:=d;", 0, 6);
        fault("a=b?c:de;", 0, 7);
        fault("a=-123456;", 0, 8);
        said.that("(of one that the text ends too early it is its length)");
        for (String text : new String[] {"a=-12345;", "a=12345;", "a=b+c;", "a=b?c:d;"}) {
            for (int length = 1; length < text.length(); length++) {
                fault(text.substring(0, length), 0, length);
                fault("j=-1;" + text.substring(0, length), 5, length);
            }
        }
        String full = ALMOST_FULL.substring(0, 52) + "b=-12345";
        fault(full, 52, 8);
        RememberedCells x = Scenes.written(full);
        said.due("no room for its \";\"", x.type(';'), LIMIT);
        said.due("so it is a fault still", x.fault(1), 8);
    }

    // ---- promise 17

    private void type() {
        said.that("- `character`: 32 to 126");
        for (int character = 32; character <= 126; character++) {
            said.due("type(" + character + ")", new RememberedCells().type(character), 1);
        }
        for (int bad : new int[] {31, 127, 0, -1, 10, 65536 + 97, 256 + 97, Integer.MIN_VALUE, Integer.MAX_VALUE}) {
            said.refused("type(" + bad + ")", Scenes::rich, x -> x.type(bad), INVALID);
        }
        said.that("Appends a character to the text.");
        RememberedCells x = Scenes.written("a=1");
        said.due("fault(0)", x.fault(0), 0);
        x.type(';');
        said.due("fault(0) then", x.fault(0), MISSING);
        said.due("no change", x.count(8), 0);
        said.that("Returns the length of the text");
        said.due("the fifth", x.type('b'), 5);
        said.that("LIMIT_REACHED if it has 60 characters");
        said.due("the 60th", Scenes.written(ALMOST_FULL).type('x'), 60);
        said.refused("the 61st", Scenes::withFullText, c -> c.type('x'), LIMIT);
        said.refused("the 61st, 32", Scenes::withFullText, c -> c.type(32), LIMIT);
        said.refused("the 61st, 126", Scenes::withFullText, c -> c.type(126), LIMIT);
    }

    // ---- promise 18

    private void clearText() {
        said.that("Empties the text.");
        RememberedCells x = Scenes.written("a=1;x");
        x.clearText();
        said.due("count(9)", x.count(9), 0);
        said.due("fault(0)", x.fault(0), MISSING);
        said.due("play()", x.play(), 0);
        said.due("a", x.cellOf(0, 1), 0);
        said.due("type() then", x.type('b'), 1);
        said.due("fault(1), of the new one alone", x.fault(1), 1);
        said.that("Returns the length it had.");
        said.due("of an empty one", new RememberedCells().clearText(), 0);
        said.due("of one", Scenes.written("a").clearText(), 1);
        said.due("of 59", Scenes.written(ALMOST_FULL).clearText(), 59);
        x = Scenes.withFullText();
        said.due("of 60", x.clearText(), 60);
        said.due("again", x.clearText(), 0);
        said.due("type() then", x.type('b'), 1);
        said.due("no change", x.count(8), 1);
    }

    // ---- promise 19

    private void fault() {
        said.that("- `what`: 0: its position; 1: its cause");
        said.range("fault(.)", 0, 1, (x, what) -> x.fault(what));
        RememberedCells x = Scenes.written("a=1;b=2;c=d");
        said.due("0", x.fault(0), 8);
        said.due("1", x.fault(1), 3);
        said.due("0 again", x.fault(0), 8);
        said.that("NOT_FOUND if the text has no fault (also if it is empty)");
        for (int what = 0; what <= 1; what++) {
            int asked = what;
            said.refused("fault(" + what + ") of an empty text", RememberedCells::new, c -> c.fault(asked), MISSING);
            said.refused("fault(" + what + ") of a full text", Scenes::withFullText, c -> c.fault(asked), MISSING);
            said.refused("fault(" + what + ") of a text", TextsTest::ready, c -> c.fault(asked), MISSING);
        }
        said.that("INVALID_ARGUMENT if what is out of range; NOT_FOUND");
        said.refused("fault(2) of a text", TextsTest::ready, c -> c.fault(2), INVALID);
        said.refused("fault(-1) of a text", TextsTest::ready, c -> c.fault(-1), INVALID);
    }

    private static RememberedCells ready() {
        RememberedCells x = Scenes.played("a=5;b=a+a;");
        x.ask(1);
        Scenes.write(x, "a=6;b=a-a;");
        return x;
    }

    // ---- promise 20

    private void play() {
        said.that("Makes all definitions of the text, which stays.");
        RememberedCells x = Scenes.written("a=5;b=-12;c=a+b;d=a-b;e=a*b;f=a^b;g=a?b:c;h=00012;i=-0;j=7;");
        said.due("play()", x.play(), 9);
        int[] answers = {5, -12, -7, 17, -60, 5, -12, 12, 0, 7};
        for (int cell = 0; cell < answers.length; cell++) {
            said.due("fresh(" + cell + ")", x.fresh(cell), answers[cell]);
        }
        said.due("count(9)", x.count(9), 59);
        said.due("play() again", x.play(), 9);
        x = Scenes.written("a=1;a=2;a=1;a=2;a=1;a=2;a=1;a=2;a=1;a=2;a=1;a=2;a=1;a=2;a=3;");
        said.due("play() of fifteen", x.play(), 15);
        said.due("the last one stands", x.cellOf(0, 1), 3);
        x = Scenes.played("a=b+b;b=a+a;");
        said.due("play() of a ring", x.count(0), 2);
        said.due("it is one", x.which(3), 3);
        said.that("They are one change, also if there are none.");
        x = new RememberedCells();
        said.due("play() of none", x.play(), 0);
        said.due("one change", x.count(8), 1);
        Scenes.write(x, "a=1;b=2;c=3;");
        said.due("play() of three", x.play(), 3);
        said.due("one change more", x.count(8), 2);
        said.due("undo", x.undo(), 1);
        said.due("none of the three is left", x.count(0) + x.cellOf(0, 1) + x.cellOf(1, 1) + x.cellOf(2, 1), 0);
        said.due("undo of none", x.undo(), 0);
        Scenes.write(x, "a=0;b=0;");
        said.due("play() of what is so", x.play(), 0);
        said.due("one change then", x.count(8), 1);
        said.that("Returns the revision then");
        x.define(9, 1);
        said.due("play() of what is so, later", x.play(), 1);
    }

    private void playRefused() {
        said.that("NOT_POSSIBLE if the text has a fault");
        String[] faulty = {"x", "a=1;b=2;c", "a=1;b=2", "a=1;b=2;;", "a=1;b=123456;c=1;", "a", ALMOST_FULL + "x",
            ALMOST_FULL.substring(0, 52) + "b=-12345"};
        for (String text : faulty) {
            said.refused("play() of " + text, () -> answeredWith(text), x -> x.play(), IMPOSSIBLE);
        }
        RememberedCells x = answeredWith("a=1;b=2");
        said.due("play()", x.play(), IMPOSSIBLE);
        x.type(';');
        said.due("play() of the whole text", x.play(), 5);
        said.due("both were made", x.cellOf(0, 1) * 10 + x.cellOf(1, 1), 12);
    }

    private static RememberedCells answeredWith(String text) {
        RememberedCells x = Scenes.played("a=4;c=5;d=a+c;");
        x.ask(3);
        Scenes.write(x, text);
        return x;
    }
}
