import java.io.IOException;

/** The document's "Terms" but those of texts: each sentence with a boundary case has a test of its own. */
public final class TermsTest {
    private static final int IMPOSSIBLE = RememberedCells.NOT_POSSIBLE;
    private static final int INVALID = RememberedCells.INVALID_ARGUMENT;
    private static final int LIMIT = RememberedCells.LIMIT_REACHED;
    private static final int MISSING = RememberedCells.NOT_FOUND;
    private static final int GREAT = 2000000000;
    private static final int MOST = 1000000000;

    private final Sentences said = new Sentences();

    private TermsTest() throws IOException {
    }

    public static void main(String[] args) throws IOException {
        TermsTest test = new TermsTest();
        test.said.in("What it is");
        test.manyCalls();
        test.said.in("Terms");
        test.cells();
        test.limits();
        test.tooGreat();
        test.revisions();
        test.looking();
        test.working();
        test.rings();
        test.forgetting();
        test.changes();
        test.said.end();
    }

    private static RememberedCells played(String... texts) {
        return Scenes.played(texts);
    }

    private void manyCalls() {
        said.that("An object is used for at most 512 calls after it has been made");
        RememberedCells x = new RememberedCells();
        for (int call = 1; call <= 512; call++) {
            said.due("define, call " + call, x.define(call % 10, call), call);
        }
        x = played("b=a+a;c=b+b;");
        for (int asked = 1; asked <= 497; asked++) {
            said.due("ask, " + asked, x.ask(1 + asked % 2), 0);
        }
        said.due("taken, the call 512", x.count(4), 497);
    }

    // ---- cells

    private void cells() {
        setsAsBits();
        tenCells();
        values();
        sums();
        greaterOnes();
        choices();
        cellsInOrder();
        chosenAlone();
    }

    private void setsAsBits() {
        said.that("Sets of cells are told as bits: bit k is for the cell k.");
        for (int cell = 0; cell <= 9; cell++) {
            RememberedCells x = new RememberedCells();
            int other = (cell + 1) % 10;
            x.formula(cell, 0, other, other, 0);
            said.due("which(0) with the formula " + cell, x.which(0), 1 << cell);
            said.due("used(" + cell + ")", x.used(cell), 1 << other);
            said.due("usedBy(" + other + ")", x.usedBy(other), 1 << cell);
        }
    }

    private void tenCells() {
        said.that("There are 10 cells, numbered from 0");
        RememberedCells x = new RememberedCells();
        for (int cell = 0; cell <= 9; cell++) {
            said.due("define(" + cell + ", .)", x.define(cell, cell + 10), cell + 1);
        }
        for (int cell = 0; cell <= 9; cell++) {
            said.due("cellOf(" + cell + ", 1)", x.cellOf(cell, 1), cell + 10);
        }
        said.refused("cell 10", Scenes::rich, c -> c.define(10, 1), INVALID);
        said.refused("cell -1", Scenes::rich, c -> c.define(-1, 1), INVALID);
    }

    private void values() {
        said.that("A cell is a value (-99999 to 99999; all are 0 at first)");
        RememberedCells x = new RememberedCells();
        for (int cell = 0; cell <= 9; cell++) {
            said.due("cellOf(" + cell + ", 1) at first", x.cellOf(cell, 1), 0);
        }
        for (int value : new int[] {99999, -99999}) {
            x.define(4, value);
            said.due("the value " + value, x.cellOf(4, 1), value);
            said.due("fresh of " + value, x.fresh(4), value);
            said.due("ask of " + value, x.ask(4), value);
        }
        said.refused("the value 100000", Scenes::rich, c -> c.define(0, 100000), INVALID);
        said.refused("the value -100000", Scenes::rich, c -> c.define(0, -100000), INVALID);
    }

    private void sums() {
        RememberedCells x = played("a=7;b=-3;c=a+b;d=a-b;e=b-a;f=a*b;g=a-a;h=b*b;");
        said.that("kind 0: x plus y");
        said.gives("7 + -3", x, 2, 4);
        said.that("kind 1: x minus y");
        said.gives("7 - -3", x, 3, 10);
        said.gives("-3 - 7", x, 4, -10);
        said.gives("7 - 7", x, 6, 0);
        said.that("kind 2: x times y");
        said.gives("7 * -3", x, 5, -21);
        said.gives("-3 * -3", x, 7, 9);
    }

    private void greaterOnes() {
        said.that("kind 3: the greater one of x and y");
        RememberedCells x = played("a=-8;b=-7;c=a^b;d=b^a;e=b^b;f=a^j;g=j^a;");
        said.gives("-8 ^ -7", x, 2, -7);
        said.gives("-7 ^ -8", x, 3, -7);
        said.gives("-7 ^ -7", x, 4, -7);
        said.gives("-8 ^ 0", x, 5, 0);
        said.gives("0 ^ -8", x, 6, 0);
    }

    private void choices() {
        said.that("kind 4: if x is above 0 then y, otherwise z");
        int[][] rows = {{1, 10}, {0, 20}, {-1, 20}, {99999, 10}, {-99999, 20}};
        for (int[] row : rows) {
            RememberedCells x = played("b=10;c=20;d=a?b:c;");
            x.define(0, row[0]);
            said.gives(row[0] + " ? 10 : 20", x, 3, row[1]);
        }
        RememberedCells x = played("a=-31250;b=32000;c=a*b;d=c?a:b;e=j-c;f=e?a:b;");
        said.gives("-1000000000 ? a : b", x, 3, 32000);
        said.gives("1000000000 ? a : b", x, 5, -31250);
    }

    private void cellsInOrder() {
        said.that("What a formula gives is worked out by its cells in this order");
        RememberedCells x = played("a=1;b=a+a;c=a-a;d=b*c;e=c*b;");
        x.ask(3);
        said.due("d's first cell", x.rememberedOf(3, 4), 1);
        said.due("d's second cell", x.rememberedOf(3, 5), 2);
        said.due("b was used ahead of c", x.rememberedOf(1, 6) * 10 + x.rememberedOf(2, 6), 1);
        x.ask(4);
        said.due("e's first cell", x.rememberedOf(4, 4), 2);
        said.due("e's second cell", x.rememberedOf(4, 5), 1);
        said.due("d, then c was used ahead of b", x.rememberedOf(2, 6) * 10 + x.rememberedOf(1, 6), 12);
    }

    private void chosenAlone() {
        said.that("of kind 4 the cell x, and then the one that is chosen alone");
        for (int chosen = 0; chosen <= 1; chosen++) {
            RememberedCells x = played("b=c+c;d=e*e;f=a?b:d;");
            x.define(0, chosen);
            x.ask(5);
            String call = "a = " + chosen + ", ";
            said.due(call + "remembered", x.which(1), 32 + (chosen == 1 ? 2 : 8));
            said.due(call + "how many used", x.rememberedOf(5, 3), 2);
            said.due(call + "the first used", x.rememberedOf(5, 4), 0);
            said.due(call + "the second used", x.rememberedOf(5, 5), chosen == 1 ? 1 : 3);
            said.due(call + "used", x.used(5), chosen == 1 ? 1 + 2 + 4 : 1 + 8 + 16);
        }
        RememberedCells x = played("a=1;b=b+b;c=99999;d=c*c;e=7;f=a?e:b;g=j?b:e;h=a?e:d;i=j?d:e;");
        said.gives("a ring in z that is not chosen", x, 5, 7);
        said.gives("a ring in y that is not chosen", x, 6, 7);
        said.gives("too great in z that is not chosen", x, 7, 7);
        said.gives("too great in y that is not chosen", x, 8, 7);
    }

    // ---- limits

    private void limits() {
        said.that("If it is below -1000000000 or above 1000000000");
        limitOfSums();
        limitOfDifferences();
        limitOfProducts();
        limitOfTheOthers();
    }

    private void limitOfSums() {
        RememberedCells x = played("a=31250;b=32000;c=a*b;d=j-c;f=c+e;g=d+e;h=c+c;i=d+d;");
        said.gives("1000000000 + 0", x, 5, MOST);
        said.gives("-1000000000 + 0", x, 6, -MOST);
        said.gives("1000000000 + 1000000000", x, 7, GREAT);
        said.gives("-1000000000 + -1000000000", x, 8, GREAT);
        x.define(4, 1);
        said.gives("1000000000 + 1", x, 5, GREAT);
        said.gives("-1000000000 + 1", x, 6, 1 - MOST);
        x.define(4, -1);
        said.gives("1000000000 + -1", x, 5, MOST - 1);
        said.gives("-1000000000 + -1", x, 6, GREAT);
    }

    private void limitOfDifferences() {
        RememberedCells x = played("a=31250;b=32000;c=a*b;d=j-c;f=c-e;g=d-e;h=c-d;i=d-c;");
        said.gives("1000000000 - 0", x, 5, MOST);
        said.gives("-1000000000 - 0", x, 6, -MOST);
        said.gives("1000000000 - -1000000000", x, 7, GREAT);
        said.gives("-1000000000 - 1000000000", x, 8, GREAT);
        x.define(4, -1);
        said.gives("1000000000 - -1", x, 5, GREAT);
        said.gives("-1000000000 - -1", x, 6, 1 - MOST);
        x.define(4, 1);
        said.gives("1000000000 - 1", x, 5, MOST - 1);
        said.gives("-1000000000 - 1", x, 6, GREAT);
    }

    private void limitOfProducts() {
        int[][] rows = {
            {31250, 32000, MOST}, {-31250, 32000, -MOST}, {31250, -32000, -MOST}, {-31250, -32000, MOST},
            {19019, 52579, GREAT}, {-19019, 52579, GREAT}, {19019, -52579, GREAT}, {-19019, -52579, GREAT},
            {65536, 65536, GREAT}, {65536, 65537, GREAT}, {99999, 99999, GREAT}, {-99999, 99999, GREAT},
            {99999, 10000, 999990000}, {99999, -10000, -999990000}, {99999, 10001, GREAT}};
        for (int[] row : rows) {
            RememberedCells x = played("c=a*b;");
            x.define(0, row[0]);
            x.define(1, row[1]);
            said.gives(row[0] + " * " + row[1], x, 2, row[2]);
        }
        RememberedCells x = played("a=31250;b=32000;c=a*b;d=c*c;e=j-c;f=c*e;g=c*h;h=1;");
        said.gives("1000000000 * 1000000000", x, 3, GREAT);
        said.gives("1000000000 * -1000000000", x, 5, GREAT);
        said.gives("1000000000 * 1", x, 6, MOST);
        x.define(7, -1);
        said.gives("1000000000 * -1", x, 6, -MOST);
        x.define(7, 2);
        said.gives("1000000000 * 2", x, 6, GREAT);
    }

    private void limitOfTheOthers() {
        RememberedCells x = played("a=31250;b=32000;c=a*b;d=j-c;e=c^d;f=d^d;g=a?c:d;h=j?c:d;");
        said.gives("1000000000 ^ -1000000000", x, 4, MOST);
        said.gives("-1000000000 ^ -1000000000", x, 5, -MOST);
        said.gives("1 ? 1000000000 : .", x, 6, MOST);
        said.gives("0 ? . : -1000000000", x, 7, -MOST);
    }

    // ---- "too great"

    private void tooGreat() {
        passedOn();
        bothUsed();
        noOtherUsed();
        anAnswerLikeOthers();
    }

    private void passedOn() {
        said.that("or one of the cells that it uses gives \"too great\", it gives \"too great\"");
        for (int kind = 0; kind <= 3; kind++) {
            for (int other : new int[] {0, 1, -1, -99999}) {
                RememberedCells x = played("a=99999;b=a*a;");
                x.define(2, other);
                x.formula(3, kind, 1, 2, 0);
                said.gives("kind " + kind + " of too great and " + other, x, 3, GREAT);
                x.formula(3, kind, 2, 1, 0);
                said.gives("kind " + kind + " of " + other + " and too great", x, 3, GREAT);
                x.formula(3, kind, 1, 1, 0);
                said.gives("kind " + kind + " of too great twice", x, 3, GREAT);
            }
        }
        RememberedCells x = played("a=99999;b=a*a;c=b?a:a;d=a?b:a;e=j?a:b;f=e-e;g=f-d;");
        said.gives("too great ? 99999 : 99999", x, 2, GREAT);
        said.gives("99999 ? too great : .", x, 3, GREAT);
        said.gives("0 ? . : too great", x, 4, GREAT);
        said.gives("of a cell of cells", x, 6, GREAT);
    }

    private void bothUsed() {
        said.that("the cells of the kinds 0 to 3 are both used in any case");
        for (int kind = 0; kind <= 3; kind++) {
            RememberedCells x = played("a=99999;b=a*a;c=a+j;e=e+e;");
            x.formula(3, kind, 1, 2, 0);
            x.ask(3);
            said.due("kind " + kind + ", how many", x.rememberedOf(3, 3), 2);
            said.due("kind " + kind + ", the second one", x.rememberedOf(3, 5), 2);
            said.due("kind " + kind + ", the second one was worked out", x.rememberedOf(2, 0), 99999);
            said.due("kind " + kind + ", used", x.used(3), 1 + 2 + 4 + 512);
            x.formula(3, kind, 1, 4, 0);
            said.due("kind " + kind + " of too great and a ring", x.ask(3), IMPOSSIBLE);
            x.formula(3, kind, 4, 1, 0);
            said.due("kind " + kind + " of a ring and too great", x.ask(3), IMPOSSIBLE);
        }
        RememberedCells x = played("b=c+d;e=a*b;");
        x.ask(4);
        said.due("0 times b uses b", x.which(1), 2 + 16);
    }

    private void noOtherUsed() {
        said.that("a formula of kind 4 whose x gives \"too great\" uses no other cell");
        RememberedCells x = played("a=99999;b=a*a;c=j+j;d=j-j;e=b?c:d;");
        said.gives("e", x, 4, GREAT);
        said.due("how many it uses", x.rememberedOf(4, 3), 1);
        said.due("the first one", x.rememberedOf(4, 4), 1);
        said.due("the second one", x.rememberedOf(4, 5), MISSING);
        said.due("c and d were not worked out", x.which(1), 2 + 16);
        said.due("used(4)", x.used(4), 1 + 2);
        said.due("usedBy(9)", x.usedBy(9), 4 + 8);
        x.define(9, 1);
        said.work("after a change of j", x, 4, 0, 2, 0);
        x = played("a=99999;b=a*a;c=c+c;e=b?c:c;");
        said.gives("too great ahead of rings", x, 4, GREAT);
        x.define(0, 1);
        said.due("1 ahead of rings", x.ask(4), IMPOSSIBLE);
    }

    private void anAnswerLikeOthers() {
        said.that("it gives \"too great\", which is an answer like others");
        RememberedCells x = played("a=99999;b=a*a;c=b+j;");
        said.work("at first", x, 2, 2, 0, 0);
        said.due("remembered", x.which(1), 2 + 4);
        said.work("then", x, 2, 0, 0, 1);
        x.define(8, 1);
        said.work("after a change of a cell that is not used", x, 2, 0, 2, 0);
        x.define(0, 88888);
        said.work("after a change of a", x, 2, 1, 1, 0);
        said.due("the same as remembered", x.count(7), 1);
        said.due("b stays changed", x.rememberedOf(1, 1), 3);
        x.define(0, 2);
        said.work("too great no more", x, 2, 2, 0, 1);
        said.due("b changed", x.rememberedOf(1, 1), 6);
        x.define(0, 99999);
        said.work("too great again", x, 2, 2, 0, 1);
        said.due("b changed again", x.rememberedOf(1, 1), 7);
        said.due("none of them the same", x.count(7), 1);
    }

    // ---- revisions

    private void revisions() {
        said.that("The revision is 0 at first");
        said.due("count(0)", new RememberedCells().count(0), 0);
        revisionOfValues();
        revisionOfFormulas();
        revisionOfTexts();
        changedAtThisRevision();
        answerGone();
        answerKeptBySame();
        said.that("At first all cells are changed at the revision 0.");
        RememberedCells x = played("b=a+a;");
        x.ask(1);
        x.define(9, 1);
        said.work("a was not changed behind the revision 1", x, 1, 0, 1, 0);
    }

    private void revisionOfValues() {
        said.that("becomes greater by 1 whenever a cell is defined as something else than it is (define,");
        RememberedCells x = new RememberedCells();
        said.due("define(0, 0) of a new one", x.define(0, 0), 0);
        said.due("define(0, 1)", x.define(0, 1), 1);
        said.due("define(0, 1) again", x.define(0, 1), 1);
        said.due("define(0, -1)", x.define(0, -1), 2);
        said.due("define(0, 0)", x.define(0, 0), 3);
        said.due("formula(0, ..)", x.formula(0, 0, 0, 0, 0), 4);
        said.due("define(0, 0) of a formula", x.define(0, 0), 5);
        said.due("define(1, 0) of a new one", x.define(1, 0), 5);
        said.due("count(0)", x.count(0), 5);
    }

    private void revisionOfFormulas() {
        said.that("(define, formula, and each definition of a text; if it is so already, the revision stays)");
        RememberedCells x = new RememberedCells();
        int[][] rows = {
            {0, 0, 0, 0, 1}, {0, 0, 0, 0, 1}, {1, 0, 0, 0, 2}, {2, 0, 0, 0, 3}, {3, 0, 0, 0, 4}, {4, 0, 0, 0, 5},
            {4, 0, 0, 0, 5}, {4, 0, 0, 9, 6}, {4, 0, 9, 9, 7}, {4, 9, 9, 9, 8}, {4, 9, 9, 9, 8}, {4, 9, 9, 0, 9},
            {0, 9, 9, 0, 10}, {0, 9, 8, 0, 11}, {0, 8, 9, 0, 12}, {0, 8, 9, 0, 12}};
        for (int[] row : rows) {
            said.due("kind " + row[0] + " of " + row[1] + ", " + row[2] + ", " + row[3],
                x.formula(5, row[0], row[1], row[2], row[3]), row[4]);
        }
        said.due("a value that is so, beside it", x.define(6, 0), 12);
        said.due("the same formula of another cell", x.formula(6, 0, 8, 9, 0), 13);
    }

    private void revisionOfTexts() {
        said.that("and each definition of a text; if it is so already, the revision stays");
        String[] texts = {"", "a=0;b=-0;c=00000;", "a=1;", "a=1;a=01;", "a=2;a=1;", "b=a+a;b=a+a;",
            "b=a-a;b=a+a;b=a+a;", "a=1;b=a+a;c=0;", "a=3;b=4;c=5;d=6;e=7;f=8;g=9;h=10;i=11;j=12;", "a=-3;a=3;a=3;a=-3;a=3;"};
        int[] revisions = {0, 0, 1, 1, 3, 4, 6, 6, 16, 20};
        RememberedCells x = new RememberedCells();
        for (int i = 0; i < texts.length; i++) {
            Scenes.write(x, texts[i]);
            said.due("play() of " + texts[i], x.play(), revisions[i]);
            said.due("count(0) behind " + texts[i], x.count(0), revisions[i]);
        }
    }

    private void changedAtThisRevision() {
        said.that("The cell is changed at this revision then");
        RememberedCells x = played("a=3;b=a+a;c=b+b;");
        x.ask(2);
        x.define(0, 4);
        x.define(0, 3);
        said.work("a is as it was, but changed", x, 2, 1, 1, 1);
        said.due("b is the same", x.count(7), 1);
        x.define(0, 3);
        said.work("a is so already", x, 2, 0, 0, 1);
        Scenes.write(x, "d=3;a=d+j;");
        x.play();
        said.work("a gives the same as a formula", x, 2, 2, 1, 3);
        said.due("a is changed at this revision", x.rememberedOf(0, 1), 7);
        said.due("b is the same again", x.count(7), 2);
        x.formula(0, 0, 9, 3, 0);
        said.work("a gives the same as another formula", x, 2, 2, 1, 3);
        said.due("a is changed at that revision", x.rememberedOf(0, 1), 8);
        said.due("a had none to compare", x.count(7), 3);
    }

    private void answerGone() {
        said.that("and has no remembered answer any more (one that goes so was not forgotten)");
        for (int way = 0; way <= 2; way++) {
            RememberedCells x = played("a=3;b=a+a;c=b+b;");
            x.ask(2);
            Scenes.write(x, "b=a*a;");
            int revision = way == 0 ? x.define(1, 6) : way == 1 ? x.formula(1, 2, 0, 0, 0) : x.play();
            said.due("way " + way, revision, 4);
            said.due("way " + way + ", b's answer", x.rememberedOf(1, 0), MISSING);
            said.due("way " + way + ", remembered", x.count(1), 1);
            said.due("way " + way + ", forgotten", x.count(5), 0);
            said.due("way " + way + ", c's answer stays", x.rememberedOf(2, 0), 12);
        }
        RememberedCells x = played("a=3;b=a+a;");
        x.ask(1);
        x.define(1, 6);
        x.formula(1, 0, 0, 0, 0);
        said.due("a formula again: its answer stays gone", x.rememberedOf(1, 0), MISSING);
        said.work("it is worked out", x, 1, 1, 0, 0);
        said.due("without one to compare", x.count(7), 0);
        said.due("changed at", x.rememberedOf(1, 1), 4);
    }

    private void answerKeptBySame() {
        said.that("A cell that is so already keeps its answer.");
        RememberedCells x = played("a=3;b=a+a;c=a?b:a;");
        x.ask(2);
        x.formula(1, 0, 0, 0, 0);
        x.formula(2, 4, 0, 1, 0);
        said.due("formula", x.which(1), 2 + 4);
        x.play();
        said.due("play", x.which(1), 2 + 4);
        said.due("seen at the present revision", x.which(2), 2 + 4);
        x.define(0, 3);
        said.work("define, of a cell that is used", x, 2, 0, 0, 1);
        Scenes.write(x, "b=a-a;b=a+a;");
        x.play();
        said.due("something else and back again", x.which(1), 4);
    }

    // ---- to look at a cell

    private void looking() {
        taken();
        lookedAtLater();
        twiceUsed();
        oneAfterTheOther();
        onceMore();
        seenNow();
        said.that("that has no remembered answer: is worked out.");
        RememberedCells x = played("a=1;b=a+a;");
        said.work("never asked", x, 1, 1, 0, 0);
        x.forget(1);
        said.work("forgotten", x, 1, 1, 0, 0);
        x.define(1, 1);
        x.formula(1, 0, 0, 0, 0);
        said.work("gone by a definition", x, 1, 1, 0, 0);
        said.work("not gone", x, 1, 0, 0, 1);
        said.that("A value is told as it is.");
        said.work("a value", x, 0, 0, 0, 0);
    }

    private void taken() {
        said.that("that has a remembered answer, seen last at the present revision: is taken");
        RememberedCells x = played("a=1;b=a+a;c=b+a;");
        x.ask(2);
        said.work("c", x, 2, 0, 0, 1);
        said.due("b is not looked at for it: b, c", x.rememberedOf(1, 6) * 10 + x.rememberedOf(2, 6), 1);
        x.forget(1);
        said.work("c with b forgotten", x, 2, 0, 0, 1);
        said.due("b is not looked at for it", x.rememberedOf(1, 0), MISSING);
        x.define(9, 0);
        said.work("at the same revision", x, 2, 0, 0, 1);
        x.define(9, 1);
        said.due("at the next revision it is not taken alone", x.cost(2, 2) == 1 && x.cost(2, 0) == 0 ? 1 : 0, 0);
    }

    private void lookedAtLater() {
        said.that("until one of them was changed at a later revision than the one at which this answer was seen last");
        RememberedCells x = played("b=a+a;a=5;");
        x.ask(1);
        said.due("b is seen at the revision at which a was changed", x.rememberedOf(1, 2), 2);
        x.define(9, 1);
        said.work("a was not changed later", x, 1, 0, 1, 0);
        x.define(9, 2);
        x.define(0, 6);
        said.work("a was changed two later", x, 1, 1, 0, 0);
        x.define(0, 7);
        said.work("a was changed one later", x, 1, 1, 0, 0);
        x.define(0, 8);
        x.define(9, 3);
        said.work("a was changed one later, and another cell behind it", x, 1, 1, 0, 0);
        x = played("a=1;b=a+a;c=b+b;");
        x.ask(2);
        x.define(0, 2);
        x.ask(1);
        x.define(9, 1);
        said.work("b was changed later than c was seen, at a revision that is past", x, 2, 1, 1, 2);
        x.define(9, 2);
        said.work("b was not changed later than c was seen", x, 2, 0, 2, 1);
    }

    private void twiceUsed() {
        said.that("(a cell that is used twice is looked at twice)");
        RememberedCells x = played("a=1;b=a+a;c=b+b;d=b?b:a;e=a?a:b;");
        said.work("worked out", x, 2, 2, 0, 1);
        said.due("used twice", x.rememberedOf(2, 3), 2);
        said.due("both the same", x.rememberedOf(2, 4) * 10 + x.rememberedOf(2, 5), 11);
        x.define(9, 1);
        said.work("kept", x, 2, 0, 2, 1);
        x.define(0, 2);
        said.work("not kept: once as the first one, then both again", x, 2, 2, 0, 2);
        said.work("a choice of itself, worked out", x, 3, 1, 0, 2);
        x.define(9, 2);
        said.work("a choice of itself, kept", x, 3, 0, 2, 1);
        said.work("values are no work", x, 4, 1, 0, 0);
        said.due("a value used twice", x.rememberedOf(4, 3), 2);
    }

    private void oneAfterTheOther() {
        said.that("the cells that were used for it are looked at, one after the other in their order");
        for (int turned = 0; turned <= 1; turned++) {
            RememberedCells x = played("a=1;b=2;c=a+a;d=b+b;");
            int first = turned == 0 ? 2 : 3;
            x.formula(4, 0, first, 5 - first, 0);
            x.ask(4);
            x.define(first - 2, 5);
            said.work("the first one was changed, the second one looked at once", x, 4, 2, 1, 1);
            x.define(3 - first, 7);
            said.work("the second one was changed, both looked at twice", x, 4, 2, 1, 2);
            x.define(9, 1);
            said.work("none was changed, both looked at once", x, 4, 0, 3, 0);
            x.define(0, 11);
            x.define(1, 12);
            said.work("both were changed", x, 4, 3, 0, 1);
        }
        RememberedCells x = played("a=1;b=c+c;d=a?b:j;");
        x.ask(3);
        x.define(0, 0);
        said.work("x was changed: y of before is not looked at", x, 3, 1, 0, 0);
        said.due("b was seen at", x.rememberedOf(1, 2), 3);
    }

    private void onceMore() {
        said.that("If there is one, it is worked out (its cells are looked at once more, from the first one on)");
        RememberedCells x = played("a=1;b=2;c=a+a;d=b+b;e=c+d;");
        x.ask(4);
        x.define(1, 3);
        x.ask(3);
        x.ask(2);
        said.due("c and d are seen: d, c", x.rememberedOf(3, 6) * 10 + x.rememberedOf(2, 6), 12);
        said.work("both looked at, then both again", x, 4, 1, 0, 4);
        x.define(0, 7);
        x.ask(2);
        x.ask(3);
        said.work("the first one looked at, then both", x, 4, 1, 0, 3);
        x = played("a=1;b=2;c=a+a;d=c?b:j;");
        x.ask(3);
        x.define(0, -1);
        said.work("c looked at and worked out, then taken", x, 3, 2, 0, 1);
        said.due("j was chosen", x.rememberedOf(3, 5), 9);
    }

    private void seenNow() {
        said.that("the answer is kept: it is seen at the present revision now");
        RememberedCells x = played("a=1;b=a+a;");
        x.ask(1);
        x.define(9, 1);
        x.define(9, 2);
        said.due("seen before", x.rememberedOf(1, 2), 2);
        said.due("cost keeps it", x.cost(1, 1), 1);
        said.due("cost does not count", x.rememberedOf(1, 2), 2);
        x.ask(1);
        said.due("seen now", x.rememberedOf(1, 2), 4);
        said.due("changed as before", x.rememberedOf(1, 1), 2);
    }

    // ---- to work out

    private void working() {
        sameAnswer();
        forgottenMeanwhile();
        said.that("It is seen at the present revision now.");
        RememberedCells x = played("a=1;b=a+a;j=1;j=2;");
        x.ask(1);
        said.due("seen at", x.rememberedOf(1, 2), 4);
        x.define(0, 2);
        x.ask(1);
        said.due("seen then, with another answer", x.rememberedOf(1, 2), 5);
        x.define(0, 3);
        x.define(0, 2);
        x.ask(1);
        said.due("seen then, with the same answer", x.rememberedOf(1, 2), 7);
    }

    private void sameAnswer() {
        said.that("If it had a remembered answer that is the same, it stays changed at the revision at which it was");
        RememberedCells x = played("a=3;b=4;c=a+b;d=c*c;");
        x.ask(3);
        said.due("c is changed at", x.rememberedOf(2, 1), 4);
        x.define(0, 4);
        x.define(1, 3);
        said.work("c worked out, d kept", x, 3, 1, 1, 1);
        said.due("c stays changed at", x.rememberedOf(2, 1), 4);
        said.due("d stays changed at", x.rememberedOf(3, 1), 4);
        said.due("once the same", x.count(7), 1);
        x.define(1, 4);
        said.work("one more: c and d worked out", x, 3, 2, 0, 2);
        said.due("c is changed now", x.rememberedOf(2, 1), 7);
        said.due("d is changed now", x.rememberedOf(3, 1), 7);
        said.due("not the same", x.count(7), 1);
        x = played("a=-1;b=a*a;c=b?b:a;");
        x.ask(2);
        x.define(0, 1);
        said.work("-1 and 1 have one square", x, 2, 1, 1, 1);
        said.due("the same", x.count(7), 1);
        x.define(0, 0);
        x.ask(2);
        said.due("0 is an answer like others", x.rememberedOf(1, 1) * 10 + x.count(7), 51);
    }

    private void forgottenMeanwhile() {
        said.that("otherwise (also if its answer was forgotten meanwhile) it is changed at the present revision");
        RememberedCells x = played("a=3;b=a+a;c=b+b;");
        said.work("at first", x, 2, 2, 0, 1);
        said.due("b is changed at", x.rememberedOf(1, 1), 3);
        x.forget(1);
        x.define(9, 1);
        said.work("b forgotten by forget", x, 2, 2, 0, 2);
        said.due("b is changed at the revision then", x.rememberedOf(1, 1), 4);
        said.due("c was not forgotten, and is the same", x.rememberedOf(2, 1) * 10 + x.count(7), 31);
        x.bound(1);
        x.ask(2);
        x.bound(10);
        x.define(9, 2);
        said.work("b forgotten by the bound", x, 2, 2, 0, 2);
        said.due("b is changed then", x.rememberedOf(1, 1), 5);
        x.forget(1);
        x.ask(1);
        said.due("b forgotten and asked at one revision", x.rememberedOf(1, 1), 5);
        x.define(9, 3);
        said.work("it is not later then", x, 2, 0, 2, 1);
    }

    // ---- rings

    private void rings() {
        said.that("If a cell is to be looked at while it is being looked at, this is a ring");
        ringsOfEachKind();
        ringsOfEachLength();
        ringsOfLooking();
        said.that("then nothing of the whole asking counts");
        said.refused("ask of a formula and a ring", TermsTest::behindRing, x -> x.ask(3), IMPOSSIBLE);
        said.refused("ask of a kept one and a ring", TermsTest::keptBehindRing, x -> x.ask(4), IMPOSSIBLE);
        said.refused("ask of a ring with the bound 0", () -> bounded(behindRing()), x -> x.ask(3), IMPOSSIBLE);
    }

    private void ringsOfEachKind() {
        for (int kind = 0; kind <= 3; kind++) {
            RememberedCells x = new RememberedCells();
            x.formula(0, kind, 0, 1, 0);
            said.due("itself as x, kind " + kind, x.ask(0), IMPOSSIBLE);
            x.formula(0, kind, 1, 0, 0);
            said.due("itself as y, kind " + kind, x.ask(0), IMPOSSIBLE);
            said.due("no formula counts", x.count(1) + x.count(2), 0);
        }
        RememberedCells x = played("a=a?b:c;d=j?c:d;e=i?e:c;i=1;");
        said.due("itself as x, kind 4", x.ask(0), IMPOSSIBLE);
        said.due("itself as z, chosen", x.ask(3), IMPOSSIBLE);
        said.due("itself as y, chosen", x.ask(4), IMPOSSIBLE);
        x.define(9, 1);
        x.define(8, 0);
        said.due("itself as z, not chosen", x.ask(3), 0);
        said.due("itself as y, not chosen", x.ask(4), 0);
    }

    private void ringsOfEachLength() {
        for (int length = 1; length <= 10; length++) {
            RememberedCells x = new RememberedCells();
            for (int cell = 0; cell < length; cell++) {
                x.formula(cell, 0, (cell + 1) % length, (cell + 1) % length, 0);
            }
            for (int cell = 0; cell < length; cell++) {
                said.due("ring of " + length + ", ask(" + cell + ")", x.ask(cell), IMPOSSIBLE);
                said.due("ring of " + length + ", fresh(" + cell + ")", x.fresh(cell), IMPOSSIBLE);
            }
            said.due("ring of " + length + ", which(3)", x.which(3), (1 << length) - 1);
            x.define(length - 1, 1);
            said.due("a chain of " + length, x.ask(0), 1 << length - 1);
            said.due("a chain of " + length + ", worked out", x.count(2), length - 1);
        }
        RememberedCells x = played("b=a+a;c=b+b;d=b+c;e=d+b;f=e+e;");
        said.due("a cell looked at again, but not meanwhile", x.ask(5), 0);
    }

    private void ringsOfLooking() {
        RememberedCells x = played("b=5;a=c?b:d;c=1;d=a+a;");
        said.due("a", x.ask(0), 5);
        x.formula(1, 0, 0, 0, 0);
        said.due("a ring by the second one that was used", x.ask(0), IMPOSSIBLE);
        said.due("a's answer stays", x.rememberedOf(0, 0), 5);
        said.due("seen as before", x.rememberedOf(0, 2), 4);
        x.define(2, 0);
        said.due("the first one changed, so it is the other one", x.ask(0), IMPOSSIBLE);
        x.define(3, 6);
        said.due("that one is no ring, and b is not looked at", x.ask(0), 6);
        x.define(2, -1);
        said.due("still the same", x.ask(0), 6);
        x.define(2, 1);
        said.due("b is a ring still", x.ask(0), IMPOSSIBLE);
    }

    /** a is a formula that can be worked out, and d uses it ahead of the ring in c. */
    private static RememberedCells behindRing() {
        return played("b=4;a=b+b;c=c+c;d=a+c;");
    }

    /** e was remembered with a and c, of which c came to a ring behind it. */
    private static RememberedCells keptBehindRing() {
        RememberedCells x = played("b=4;a=b+b;c=1;e=a+c;");
        x.ask(4);
        x.formula(2, 0, 4, 4, 0);
        return x;
    }

    private static RememberedCells bounded(RememberedCells x) {
        x.ask(0);
        x.bound(0);
        return x;
    }

    // ---- to forget

    private void forgetting() {
        usedAgain();
        bounds();
        smallBounds();
        untilThereAreNotMore();
    }

    private void usedAgain() {
        said.that("Each time a formula has been taken, kept or worked out, it is used.");
        RememberedCells x = played("a=1;b=a+a;c=a*a;d=a-a;");
        x.ask(1);
        x.ask(2);
        x.ask(3);
        places("worked out: b, c, d", x, 12);
        x.ask(1);
        places("b taken: c, d, b", x, 201);
        x.define(9, 1);
        x.ask(2);
        places("c kept: d, b, c", x, 120);
        x.define(0, -1);
        x.ask(3);
        places("d worked out: b, c, d", x, 12);
        x.cost(1, 0);
        x.fresh(1);
        x.would(0, 2, 1);
        x.used(1);
        places("b not asked: b, c, d", x, 12);
        x.formula(4, 0, 2, 1, 0);
        x.ask(4);
        places("c, b for another one: d, c, b", x, 210);
        said.due("e behind them", x.rememberedOf(4, 6), 3);
    }

    /** The places of b, c and d, as the digits of one number. */
    private void places(String call, RememberedCells x, int want) {
        said.due(call, x.rememberedOf(1, 6) * 100 + x.rememberedOf(2, 6) * 10 + x.rememberedOf(3, 6), want);
    }

    private void bounds() {
        said.that("(0 to 10; 10 at first)");
        said.due("count(6) at first", new RememberedCells().count(6), 10);
        int[] all = {1022, 1022, 1020, 1016, 1008, 992, 960, 896, 768, 512, 0};
        for (int fewer = 0; fewer <= 10; fewer++) {
            RememberedCells x = Scenes.withNineAnswers();
            int bound = 10 - fewer;
            x.bound(bound);
            said.due("bound " + bound + ", nine answers before", x.which(1), 1022);
            x.ask(9);
            said.due("bound " + bound + ", those left", x.which(1), all[fewer]);
            said.due("bound " + bound + ", how many", x.count(1), Math.min(9, bound));
            said.due("bound " + bound + ", forgotten", x.count(5), Math.max(0, 9 - bound));
        }
    }

    private void smallBounds() {
        said.that("When a cell is asked and there are more remembered answers behind it than the bound");
        RememberedCells x = played("a=1;b=a+a;c=b+a;d=c+a;");
        x.ask(2);
        x.bound(2);
        x.ask(0);
        said.due("as many as the bound", x.which(1), 2 + 4);
        said.due("none forgotten", x.count(5), 0);
        said.due("one more", x.ask(3), 4);
        said.due("b is forgotten", x.which(1), 4 + 8);
        said.due("one forgotten", x.count(5), 1);
        x.bound(1);
        said.due("none by bound", x.count(1), 2);
        x.define(9, 1);
        x.cost(3, 0);
        x.fresh(3);
        x.used(3);
        x.would(0, 2, 3);
        said.due("none by other calls", x.count(1), 2);
        said.due("by asking a value", x.ask(0), 1);
        said.due("d is left", x.which(1), 8);
        x.bound(0);
        said.due("asked with the bound 0", x.ask(3), 4);
        said.due("none is left", x.which(1), 0);
        said.due("all were forgotten: b, c, and b, c, d again", x.count(5), 5);
    }

    private void untilThereAreNotMore() {
        said.that("those go that were used longest ago, until there are not more");
        RememberedCells x = played("a=1;b=a+a;c=a*a;d=a-a;e=a^a;f=a+a;");
        for (int cell : new int[] {4, 2, 5, 1, 3}) {
            x.ask(cell);
        }
        x.bound(2);
        x.ask(4);
        said.due("c, f and b go, e was used again", x.which(1), 8 + 16);
        said.due("three forgotten", x.count(5), 3);
        x.ask(2);
        said.due("d goes", x.which(1), 4 + 16);
        x.define(9, 1);
        x.ask(4);
        x.ask(1);
        said.due("c goes, e was kept meanwhile", x.which(1), 2 + 16);
        x.define(0, 2);
        x.bound(10);
        x.ask(5);
        x.bound(2);
        x.ask(1);
        said.due("e goes, b was worked out again", x.which(1), 2 + 32);
    }

    // ---- changes and errors

    private void changes() {
        changesOfTheHistory();
        noChanges();
        fourStates();
        everythingBefore();
        textStays();
        orderOfErrors();
    }

    private void changesOfTheHistory() {
        said.that("The changes are the calls of define, formula, ask, forget, bound and play that return no error.");
        String[] calls = {"define", "define as it is", "formula", "formula as it is", "ask", "ask of a value",
            "ask of too great", "ask that takes", "forget", "bound", "bound as it is", "play", "play of nothing"};
        for (int call = 0; call < calls.length; call++) {
            RememberedCells x = changeable();
            said.due(calls[call] + ", no error", change(x, call) >= 0 ? 1 : 0, 1);
            said.due(calls[call] + ", states", x.count(8), 3);
            said.due(calls[call] + ", undo", x.undo(), 2);
        }
    }

    /** Two states in the history; b is remembered, and d gives "too great". */
    private static RememberedCells changeable() {
        RememberedCells x = played("a=3;b=a+a;c=99999;d=c*c;e=a-j;");
        x.ask(1);
        Scenes.write(x, "a=7;");
        return x;
    }

    private static int change(RememberedCells x, int call) {
        switch (call) {
            case 0:
                return x.define(0, 8);
            case 1:
                return x.define(0, 3);
            case 2:
                return x.formula(0, 0, 9, 9, 0);
            case 3:
                return x.formula(1, 0, 0, 0, 0);
            case 4:
                return x.ask(4);
            case 5:
                return x.ask(0);
            case 6:
                return x.ask(3);
            case 7:
                return x.ask(1);
            case 8:
                return x.forget(1);
            case 9:
                return x.bound(0);
            case 10:
                return x.bound(10);
            case 11:
                return x.play();
            default:
                x.clearText();
                return x.play();
        }
    }

    private void noChanges() {
        said.that("The changes are the calls of define, formula, ask, forget, bound and play");
        RememberedCells x = changeable();
        x.cellOf(0, 0);
        x.fresh(1);
        x.cost(1, 0);
        x.rememberedOf(1, 0);
        x.which(0);
        x.used(1);
        x.usedBy(0);
        x.would(0, 1, 1);
        x.count(0);
        x.fault(0);
        said.unchanged("the calls that tell", x, changeable());
        x = changeable();
        x.type('b');
        said.due("type", x.count(8), 2);
        x.clearText();
        said.due("clearText", x.count(8), 2);
        x.undo();
        said.due("undo", x.count(8), 1);
        x.undo();
        said.due("undo again", x.count(8), 0);
        x.undo();
        said.due("undo of nothing", x.count(8), 0);
    }

    private void fourStates() {
        said.that("A history of at most 4 states is kept");
        RememberedCells x = new RememberedCells();
        for (int value = 1; value <= 6; value++) {
            x.define(0, value);
            said.due("states behind " + value + " changes", x.count(8), Math.min(4, value));
        }
        said.that("and if there are 5 states then, the oldest one is dropped");
        for (int left = 3; left >= 0; left--) {
            said.due("undo", x.undo(), left);
            said.due("the value then", x.cellOf(0, 1), left + 2);
            said.due("the revision then", x.count(0), left + 2);
        }
        said.refused("undo of what was dropped", TermsTest::undoneAll, c -> c.undo(), IMPOSSIBLE);
        x = new RememberedCells();
        for (int value = 1; value <= 4; value++) {
            x.define(0, value);
        }
        for (int left = 3; left >= 0; left--) {
            said.due("undo of four", x.undo(), left);
            said.due("the value behind it", x.cellOf(0, 1), left);
        }
        x.define(0, 5);
        said.due("one state again", x.count(8), 1);
    }

    private static RememberedCells undoneAll() {
        RememberedCells x = new RememberedCells();
        for (int value = 1; value <= 5; value++) {
            x.define(0, value);
        }
        for (int i = 0; i < 4; i++) {
            x.undo();
        }
        return x;
    }

    private void everythingBefore() {
        said.that("each change records everything before it but the text");
        for (int what = 0; what <= 9; what++) {
            said.due("something to be recorded in count(" + what + ")", everything().count(what) > 0 ? 1 : 0, 1);
        }
        String before = Look.at(everything());
        for (int call = 0; call <= 11; call++) {
            RememberedCells x = everything();
            said.due("change " + call + ", no error", change(x, call) >= 0 ? 1 : 0, 1);
            said.due("change " + call + ", states", x.count(8), 4);
            said.due("change " + call + ", undo", x.undo(), 3);
            said.due("change " + call + ", undone", Look.at(x), before);
        }
        RememberedCells x = changeable();
        x.bound(1);
        x.ask(3);
        said.due("b was forgotten by asking d", x.which(1), 8);
        x.undo();
        said.due("b is remembered again", x.which(1), 2);
        said.due("as the only one", x.rememberedOf(1, 6), 0);
        said.due("nothing was forgotten", x.count(5), 0);
        said.due("nor worked out but b", x.count(2), 1);
        said.due("the bound is as it was then", x.count(6), 1);
        x.undo();
        said.due("the bound is as it was before", x.count(6), 10);
    }

    /** Three states in the history, and something in each count. */
    private static RememberedCells everything() {
        RememberedCells x = changeable();
        x.ask(4);
        x.define(0, -3);
        x.define(0, 3);
        x.ask(1);
        x.ask(1);
        x.define(8, 1);
        x.ask(1);
        x.forget(4);
        x.bound(9);
        x.bound(8);
        x.undo();
        return x;
    }

    private void textStays() {
        said.that("each change records everything before it but the text");
        RememberedCells x = new RememberedCells();
        x.type('a');
        x.define(0, 1);
        x.type('=');
        said.due("undo", x.undo(), 0);
        said.due("what was typed behind the change stays", x.count(9), 2);
        x.define(0, 1);
        x.clearText();
        x.undo();
        said.due("what was cleared behind the change stays so", x.count(9), 0);
        Scenes.write(x, "b=2;");
        x.play();
        x.undo();
        said.due("the text stays behind play() and undo()", x.count(9), 4);
        said.due("b", x.cellOf(1, 1), 0);
        said.due("play() again", x.play(), 1);
        said.due("b then", x.cellOf(1, 1), 2);
    }

    private void orderOfErrors() {
        said.that("INVALID_ARGUMENT is returned rather than NOT_POSSIBLE");
        said.refused("cost(ring, 3)", Scenes::rich, x -> x.cost(5, 3), INVALID);
        said.refused("cost(ring, -1)", Scenes::rich, x -> x.cost(5, -1), INVALID);
        said.refused("would(0, 100000, ring)", Scenes::rich, x -> x.would(0, 100000, 5), INVALID);
        said.refused("would(10, 0, ring)", Scenes::rich, x -> x.would(10, 0, 5), INVALID);
        said.refused("type(127) in a full text", Scenes::withFullText, x -> x.type(127), INVALID);
        said.refused("type(31) in a full text", Scenes::withFullText, x -> x.type(31), INVALID);
        said.refused("would(0, -100000, .) too great", Scenes::rich, x -> x.would(0, -100000, 4), INVALID);
        said.refused("cellOf(value, 5)", Scenes::rich, x -> x.cellOf(0, 5), INVALID);
        said.refused("cellOf(10, 4)", Scenes::rich, x -> x.cellOf(10, 4), INVALID);
        said.refused("rememberedOf(value, 7)", Scenes::rich, x -> x.rememberedOf(0, 7), INVALID);
        said.refused("fault(2) of a text without fault", RememberedCells::new, x -> x.fault(2), INVALID);
        said.refused("fault(-1) of a text without fault", RememberedCells::new, x -> x.fault(-1), INVALID);
        said.that("NOT_POSSIBLE rather than LIMIT_REACHED");
        said.refused("fresh of too great and a ring", TermsTest::greatAndRing, x -> x.fresh(3), IMPOSSIBLE);
        said.refused("fresh of a ring and too great", TermsTest::greatAndRing, x -> x.fresh(4), IMPOSSIBLE);
        said.refused("would of too great and a ring", TermsTest::greatAndRing, x -> x.would(9, 1, 3), IMPOSSIBLE);
        said.refused("would of a ring and too great", TermsTest::greatAndRing, x -> x.would(9, 1, 4), IMPOSSIBLE);
        said.that("A call that returns an error changes nothing.");
        said.refused("undo() of nothing", RememberedCells::new, x -> x.undo(), IMPOSSIBLE);
        said.refused("forget of what has no answer", Scenes::rich, x -> x.forget(5), IMPOSSIBLE);
        said.refused("play() of a fault", Scenes::rich, x -> x.play(), IMPOSSIBLE);
        said.refused("ask of a ring", Scenes::rich, x -> x.ask(5), IMPOSSIBLE);
        said.refused("type in a full text", Scenes::withFullText, x -> x.type('a'), LIMIT);
        said.refused("rememberedOf of no answer", Scenes::rich, x -> x.rememberedOf(5, 0), MISSING);
    }

    /** b gives "too great", c comes to a ring. */
    private static RememberedCells greatAndRing() {
        return played("a=99999;b=a*a;c=c+c;d=b+c;e=c*b;");
    }
}
