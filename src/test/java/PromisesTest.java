import java.util.function.Supplier;
import java.util.function.ToIntFunction;

/** Each promise of the document: ordinary inputs, the edges that it names, and wrong inputs. */
public final class PromisesTest {
    private static final int INVALID = RememberedCells.INVALID_ARGUMENT;
    private static final int IMPOSSIBLE = RememberedCells.NOT_POSSIBLE;
    private static final int LIMIT = RememberedCells.LIMIT_REACHED;
    private static final int MISSING = RememberedCells.NOT_FOUND;
    private static final int GREAT = 2000000000;

    private static final int SUM = 0;
    private static final int DIFFERENCE = 1;
    private static final int PRODUCT = 2;
    private static final int GREATER = 3;
    private static final int CHOICE = 4;

    private static final int[] NO_CELLS = {-1, 10, Integer.MIN_VALUE, Integer.MAX_VALUE};
    private static final int[] NO_VALUES = {-100000, 100000, Integer.MIN_VALUE, Integer.MAX_VALUE};

    private final Checks checks = new Checks();

    private PromisesTest() {
    }

    public static void main(String[] args) {
        PromisesTest test = new PromisesTest();
        test.newObject();
        test.define();
        test.formula();
        test.formulaRefusals();
        test.definitionsOfBothKinds();
        test.firstAndLastCell();
        test.cellOf();
        test.ask();
        test.limits();
        test.greatAnswers();
        test.keptAnswers();
        test.lookedAtAgain();
        test.choices();
        test.rings();
        test.fresh();
        test.cost();
        test.questions();
        test.forget();
        test.forgottenMeanwhile();
        test.bound();
        test.rememberedOf();
        test.places();
        test.which();
        test.used();
        test.would();
        test.count();
        test.undo();
        test.history();
        test.type();
        test.faults();
        test.play();
        test.playRefused();
        test.checks.end();
    }

    private void due(String call, long got, long want) {
        checks.due(call, got, want);
    }

    private void refused(String call, ToIntFunction<RememberedCells> asked, int want) {
        refused(call, Scenes::rich, asked, want);
    }

    /** Checks a call that is to return an error: its answer, and that nothing changed by it, history included. */
    private void refused(String call, Supplier<RememberedCells> made, ToIntFunction<RememberedCells> asked,
        int want) {
        RememberedCells called = made.get();
        RememberedCells other = made.get();
        checks.due(call, asked.applyAsInt(called), want);
        unchanged(call, called, other);
    }

    /** Checks a call that answers, but is to change nothing. */
    private void unchanged(String call, RememberedCells called, RememberedCells other) {
        checks.due(call + ", the state behind it,", Look.at(called), Look.at(other));
        int undone = 0;
        while (undone < 4 && other.undo() >= 0) {
            undone++;
            called.undo();
        }
        checks.due(call + ", the oldest state behind it,", Look.at(called), Look.at(other));
    }

    // ---- promises 1 to 4

    private void newObject() {
        RememberedCells x = new RememberedCells();
        for (int cell = 0; cell < 10; cell++) {
            due("new cellOf(" + cell + ", 0)", x.cellOf(cell, 0), 0);
            due("new cellOf(" + cell + ", 1)", x.cellOf(cell, 1), 0);
            due("new fresh(" + cell + ")", x.fresh(cell), 0);
        }
        int[] counts = {0, 0, 0, 0, 0, 0, 10, 0, 0, 0};
        for (int what = 0; what < counts.length; what++) {
            due("new count(" + what + ")", x.count(what), counts[what]);
        }
        for (int what = 0; what <= 4; what++) {
            due("new which(" + what + ")", x.which(what), 0);
        }
        due("new undo()", x.undo(), IMPOSSIBLE);
        due("new fault(0)", x.fault(0), MISSING);
        new RememberedCells().define(0, 5);
        due("cellOf(0, 1) beside another object", x.cellOf(0, 1), 0);
    }

    private void define() {
        RememberedCells x = new RememberedCells();
        due("define(0, 0) as it is", x.define(0, 0), 0);
        due("define(0, 7)", x.define(0, 7), 1);
        due("define(0, 7) again", x.define(0, 7), 1);
        due("define(9, 99999)", x.define(9, 99999), 2);
        due("define(9, -99999)", x.define(9, -99999), 3);
        due("its value", x.cellOf(9, 1), -99999);
        due("changes so far, four kept", x.count(8), 4);
        x.formula(1, SUM, 0, 9, 0);
        x.ask(1);
        due("define(1, 0) of a formula", x.define(1, 0), 5);
        due("remembered answers of what is a value now", x.rememberedOf(1, 0), MISSING);
        due("it was not forgotten", x.count(5), 0);
        for (int bad : NO_CELLS) {
            refused("define(" + bad + ", 1)", c -> c.define(bad, 1), INVALID);
        }
        for (int bad : NO_VALUES) {
            refused("define(0, " + bad + ")", c -> c.define(0, bad), INVALID);
        }
    }

    private void formula() {
        RememberedCells x = Scenes.played("a=7;b=-3;");
        due("formula a+b", x.formula(2, SUM, 0, 1, 0), 3);
        due("formula a-b", x.formula(3, DIFFERENCE, 0, 1, 0), 4);
        due("formula a*b", x.formula(4, PRODUCT, 0, 1, 0), 5);
        due("formula a^b", x.formula(5, GREATER, 0, 1, 0), 6);
        due("formula b^a", x.formula(6, GREATER, 1, 0, 0), 7);
        due("formula a?b:c", x.formula(7, CHOICE, 0, 1, 2), 8);
        due("formula b?a:c", x.formula(8, CHOICE, 1, 0, 2), 9);
        int[] answers = {7, -3, 4, 10, -21, 7, 7, -3, 4};
        for (int cell = 0; cell < answers.length; cell++) {
            due("ask(" + cell + ")", x.ask(cell), answers[cell]);
        }
        due("formula a+b as it is", x.formula(2, SUM, 0, 1, 0), 9);
        due("its answer is kept", x.rememberedOf(2, 0), 4);
        due("formula b+a, another one", x.formula(2, SUM, 1, 0, 0), 10);
        due("its answer is gone", x.rememberedOf(2, 0), MISSING);
        due("not forgotten", x.count(5), 0);
        due("another kind of the same cells", x.formula(3, SUM, 0, 1, 0), 11);
        due("another z", x.formula(7, CHOICE, 0, 1, 3), 12);
        due("another y", x.formula(7, CHOICE, 0, 2, 3), 13);
        due("another x", x.formula(7, CHOICE, 1, 2, 3), 14);
        due("the same choice", x.formula(7, CHOICE, 1, 2, 3), 14);
        due("a cell of itself", x.formula(9, SUM, 9, 9, 0), 15);
        due("a choice of a", x.formula(9, CHOICE, 0, 0, 0), 16);
        due("a sum of a after it", x.formula(9, SUM, 0, 0, 0), 17);
    }

    private void definitionsOfBothKinds() {
        RememberedCells x = new RememberedCells();
        x.formula(0, CHOICE, 1, 2, 3);
        x.define(5, 7);
        x.formula(0, CHOICE, 4, 6, 7);
        due("a value as it is, between formulas", x.define(5, 7), 3);
        x.define(5, 8);
        due("a formula as it is, between values", x.formula(0, CHOICE, 4, 6, 7), 4);
        Scenes.write(x, "e=f*g;d=8;");
        x.play();
        due("a formula as it was played", x.formula(4, PRODUCT, 5, 6, 0), 6);
        due("a value as it was played", x.define(3, 8), 6);
    }

    private void firstAndLastCell() {
        RememberedCells x = Scenes.played("a=b+c;j=a+a;");
        x.ask(9);
        due("a and j are formulas", x.which(0), 513);
        due("a and j are remembered", x.which(1), 513);
        due("so two are", x.count(1), 2);
        due("a ahead of j", x.rememberedOf(0, 6) * 10 + x.rememberedOf(9, 6), 1);
        due("c is used for both", x.usedBy(2), 513);
        due("a, b and c are used for j", x.used(9), 7);
        x.bound(1);
        x.ask(9);
        due("a is forgotten", x.which(1), 512);
        x.ask(0);
        due("j is forgotten", x.which(1), 1);
    }

    private void formulaRefusals() {
        RememberedCells x = Scenes.played("a=7;b=-3;c=a+b;");
        x.ask(2);
        for (int bad : NO_CELLS) {
            refused("formula with cell " + bad, c -> c.formula(bad, SUM, 0, 0, 0), INVALID);
            refused("formula with x " + bad, c -> c.formula(2, SUM, bad, 0, 0), INVALID);
            refused("formula with y " + bad, c -> c.formula(2, SUM, 0, bad, 0), INVALID);
            refused("formula with z " + bad, c -> c.formula(2, CHOICE, 0, 0, bad), INVALID);
        }
        for (int kind : new int[] {-1, 5, Integer.MIN_VALUE, Integer.MAX_VALUE}) {
            refused("formula of kind " + kind, c -> c.formula(2, kind, 0, 0, 0), INVALID);
        }
        for (int kind : new int[] {SUM, DIFFERENCE, PRODUCT, GREATER}) {
            refused("z 1 of kind " + kind, c -> c.formula(2, kind, 0, 0, 1), INVALID);
            refused("z -1 of kind " + kind, c -> c.formula(2, kind, 0, 0, -1), INVALID);
        }
    }

    private void cellOf() {
        RememberedCells x = Scenes.played("a=5;b=c-d;e=f?g:h;i=j^a;");
        int[][] due = {
            {0, 0, 5, MISSING, MISSING, MISSING},
            {1, 2, MISSING, 2, 3, MISSING},
            {4, 5, MISSING, 5, 6, 7},
            {8, 4, MISSING, 9, 0, MISSING},
            {9, 0, 0, MISSING, MISSING, MISSING}};
        for (int[] row : due) {
            for (int what = 0; what <= 4; what++) {
                due("cellOf(" + row[0] + ", " + what + ")", x.cellOf(row[0], what), row[what + 1]);
            }
        }
        for (int bad : NO_CELLS) {
            due("cellOf(" + bad + ", 0)", x.cellOf(bad, 0), INVALID);
        }
        due("cellOf(0, -1)", x.cellOf(0, -1), INVALID);
        due("cellOf(0, 5)", x.cellOf(0, 5), INVALID);
        due("cellOf(10, 2): invalid rather than not found", x.cellOf(10, 2), INVALID);
        x.define(4, 3);
        x.formula(4, SUM, 1, 1, 0);
        due("z of what was a value", x.cellOf(4, 4), MISSING);
    }

    // ---- promise 5

    private void ask() {
        RememberedCells x = Scenes.played("a=3;b=4;c=a+b;d=c*c;");
        due("ask a value", x.ask(0), 3);
        due("it is a change", x.count(8), 2);
        due("it is no work", x.count(2) + x.count(3) + x.count(4), 0);
        due("ask(3)", x.ask(3), 49);
        due("worked out", x.count(2), 2);
        due("taken", x.count(4), 1);
        due("remembered", x.which(1), 12);
        due("ask(2)", x.ask(2), 7);
        due("taken then", x.count(4), 2);
        due("revision", x.count(0), 4);
        for (int bad : NO_CELLS) {
            refused("ask(" + bad + ")", c -> c.ask(bad), INVALID);
        }
    }

    private void limits() {
        RememberedCells x = Scenes.played("a=31622;b=20000;c=50000;d=b*c;e=a-b;f=1;g=d+f;");
        due("1000000000 itself", x.ask(3), 1000000000);
        due("one more", x.ask(6), GREAT);
        x.define(5, -1);
        due("one less", x.ask(6), 999999999);
        x.define(1, -20000);
        due("-1000000000 itself", x.ask(3), -1000000000);
        due("one below", x.ask(6), GREAT);
        x.define(5, 1);
        due("one above", x.ask(6), -999999999);
        x = Scenes.played("a=99999;b=20000;c=50000;d=b*c;e=d*d;f=d+d;g=a*a;");
        due("far beyond int, a product", x.ask(4), GREAT);
        due("2000000000 made by a sum", x.ask(5), GREAT);
        due("a product that wraps in int", x.ask(6), GREAT);
        x = Scenes.played("b=-32000;c=31250;d=b*c;e=d+d;f=d*d;g=d^a;h=a-d;");
        due("-2000000000 made by a sum", x.ask(4), GREAT);
        due("a product of two negative ones", x.ask(5), GREAT);
        due("the greater one of them and 0", x.ask(6), 0);
        due("minus the least", x.ask(7), 1000000000);
    }

    private void greatAnswers() {
        RememberedCells x = Scenes.played("a=99999;b=a*a;c=b^d;d=1;e=b?a:d;f=d?b:a;");
        due("ask too great", x.ask(1), GREAT);
        due("it is a change", x.count(8), 2);
        due("it is remembered", x.rememberedOf(1, 0), GREAT);
        due("the greater one of too great and 1", x.ask(2), GREAT);
        due("both cells are used", x.rememberedOf(2, 3), 2);
        due("chosen by too great", x.ask(4), GREAT);
        due("no other cell is used", x.rememberedOf(4, 3), 1);
        due("chosen too great", x.ask(5), GREAT);
        due("two cells are used", x.rememberedOf(5, 3), 2);
        int same = x.count(7);
        x.define(0, 88888);
        due("still too great", x.ask(4), GREAT);
        due("too great is the same as too great", x.count(7), same + 1);
        due("so the choice is kept", x.rememberedOf(4, 1), 6);
        due("though seen now", x.rememberedOf(4, 2), 7);
        Scenes.write(x, "g=b+g;");
        x.play();
        due("too great and a ring", x.ask(6), IMPOSSIBLE);
        Scenes.write(x, "g=b?g:g;");
        x.play();
        due("too great ahead of a ring", x.ask(6), GREAT);
        Scenes.write(x, "g=b*h;h=h-h;h=0;");
        x.play();
        due("too great times 0", x.ask(6), GREAT);
        Scenes.write(x, "g=h*b;");
        x.play();
        due("0 times too great", x.ask(6), GREAT);
    }

    private void keptAnswers() {
        RememberedCells x = Scenes.played("a=3;b=4;c=a+b;d=c*c;");
        x.ask(3);
        x.define(0, 4);
        x.define(1, 3);
        due("the same sum", x.ask(3), 49);
        due("c worked out", x.count(2), 3);
        due("c the same", x.count(7), 1);
        due("d kept", x.count(3), 1);
        due("c looked at twice for d", x.count(4), 2);
        due("c changed", x.rememberedOf(2, 1), 4);
        due("c seen", x.rememberedOf(2, 2), 6);
        due("d changed", x.rememberedOf(3, 1), 4);
        due("d seen", x.rememberedOf(3, 2), 6);
        x.define(9, 1);
        due("after a cell that is not used", x.ask(3), 49);
        due("nothing worked out", x.count(2), 3);
        due("two kept", x.count(3), 3);
        due("one taken", x.count(4), 3);
        x.define(0, 5);
        due("another sum", x.ask(3), 64);
        due("both worked out", x.count(2), 5);
        due("c changed then", x.rememberedOf(2, 1), 8);
        due("d changed then", x.rememberedOf(3, 1), 8);
        due("c taken once more, by d's second look", x.count(4), 5);
    }

    private void lookedAtAgain() {
        RememberedCells x = Scenes.played("a=1;b=2;c=a+a;d=b+b;e=c+d;");
        x.ask(4);
        x.define(0, 5);
        due("the first used cell changed", x.ask(4), 14);
        due("c and e worked out, d kept", x.count(2) * 100 + x.count(3), 501);
        due("c taken by the second look alone", x.count(4), 1);
        x.define(1, 3);
        due("the second used cell changed", x.ask(4), 16);
        due("d and e worked out, c kept", x.count(2) * 100 + x.count(3), 702);
        due("c and d taken by the second look", x.count(4), 3);
        x.define(0, 6);
        due("ask c alone", x.ask(2), 12);
        x.define(9, 1);
        due("c changed later than e was seen", x.ask(4), 18);
        due("c kept, then e worked out with d kept", x.count(2) * 100 + x.count(3), 904);
        due("c taken by the second look", x.count(4), 4);
        x = Scenes.played("a=1;b=a+j;c=b+j;");
        x.ask(2);
        x.define(0, 2);
        x.ask(1);
        due("b changed at the revision that is seen now", x.rememberedOf(1, 1), 4);
        due("ask c", x.ask(2), 2);
        due("c worked out at it", x.rememberedOf(2, 1), 4);
        x.define(9, 0);
        due("no new revision, so c is taken", x.cost(2, 2), 1);
    }

    private void choices() {
        RememberedCells x = Scenes.played("a=1;b=5;c=6;d=b+b;e=c+c;f=a?d:e;");
        due("above 0", x.ask(5), 10);
        due("d alone is worked out", x.which(1), 8 + 32);
        x.define(0, 0);
        due("0 is not above 0", x.ask(5), 12);
        due("d is not looked at again", x.which(2), 16 + 32);
        due("a and e are used", x.rememberedOf(5, 4) * 10 + x.rememberedOf(5, 5), 4);
        x.define(0, -1);
        due("below 0", x.ask(5), 12);
        due("the same answer", x.count(7), 1);
        x.define(1, 9);
        due("a cell that is not chosen changes", x.cost(5, 0), 0);
        due("f and e would be kept", x.cost(5, 1), 2);
        x.define(0, 2);
        due("d again", x.ask(5), 18);
        due("e was not looked at", x.rememberedOf(4, 2), 8);
    }

    private static RememberedCells withRing() {
        return Scenes.played("a=b+b;b=a+a;c=d?a:e;e=4;f=e+e;g=f+a;");
    }

    private void rings() {
        RememberedCells x = withRing();
        refused("ask a ring", PromisesTest::withRing, c -> c.ask(0), IMPOSSIBLE);
        refused("ask its other cell", PromisesTest::withRing, c -> c.ask(1), IMPOSSIBLE);
        refused("ask what comes to it, f's answer does not count", PromisesTest::withRing, c -> c.ask(6), IMPOSSIBLE);
        due("a ring that is not chosen", x.ask(2), 4);
        x.define(3, 1);
        due("a ring that is chosen", x.ask(2), IMPOSSIBLE);
        due("the answer of before is there", x.rememberedOf(2, 0), 4);
        x.define(3, 0);
        due("not chosen again", x.ask(2), 4);
        refused("nothing is forgotten by a ring", c -> c.ask(5), IMPOSSIBLE);
        x = Scenes.played("a=a-a;");
        due("a cell of itself", x.ask(0), IMPOSSIBLE);
        x = Scenes.played("a=b+b;b=c+c;c=d+d;d=e+e;e=f+f;f=g+g;g=h+h;h=i+i;i=j+j;j=1;");
        due("the longest chain", x.ask(0), 512);
        x.formula(9, SUM, 0, 0, 0);
        due("the longest ring", x.ask(5), IMPOSSIBLE);
        due("nothing looked at counts", x.count(2) + x.count(3) * 100 + x.count(4) * 10000, 80009);
        x.define(9, 2);
        due("the ring is gone", x.ask(0), 1024);
    }

    // ---- promises 6 and 7

    private void fresh() {
        RememberedCells x = Scenes.played("a=3;b=a*a;c=99999;d=c*c;e=e+a;");
        x.ask(1);
        x.define(0, 4);
        due("fresh a value", x.fresh(0), 4);
        due("fresh a formula", x.fresh(1), 16);
        due("fresh too great", x.fresh(3), LIMIT);
        due("fresh a ring", x.fresh(4), IMPOSSIBLE);
        refused("fresh too great", c -> c.fresh(4), LIMIT);
        refused("fresh a ring", c -> c.fresh(5), IMPOSSIBLE);
        for (int bad : NO_CELLS) {
            refused("fresh(" + bad + ")", c -> c.fresh(bad), INVALID);
        }
        x.bound(0);
        due("forgotten before", x.count(5), 0);
        x.fresh(1);
        due("fresh forgets nothing", x.count(5), 0);
    }

    private void cost() {
        RememberedCells x = Scenes.played("a=3;b=4;c=a+b;d=c*c;e=e+e;f=d+c;");
        due("cost of a value", x.cost(0, 0) + x.cost(0, 1) + x.cost(0, 2), 0);
        due("to be worked out", x.cost(3, 0), 2);
        due("to be kept", x.cost(3, 1), 0);
        due("to be taken", x.cost(3, 2), 1);
        due("taken for f", x.cost(5, 2), 2);
        x.ask(3);
        due("only taken", x.cost(3, 0) * 100 + x.cost(3, 1) * 10 + x.cost(3, 2), 1);
        x.define(9, 1);
        due("kept, with c taken", x.cost(3, 0) * 100 + x.cost(3, 1) * 10 + x.cost(3, 2), 21);
        x.define(0, 5);
        due("worked out, with c taken", x.cost(3, 0) * 100 + x.cost(3, 1) * 10 + x.cost(3, 2), 202);
        refused("cost of a ring", c -> c.cost(5, 0), IMPOSSIBLE);
        refused("cost of a ring, kept", c -> c.cost(5, 1), IMPOSSIBLE);
        refused("cost of a ring, taken", c -> c.cost(5, 2), IMPOSSIBLE);
        refused("invalid rather than not possible", c -> c.cost(5, 3), INVALID);
        refused("cost(3, -1)", c -> c.cost(3, -1), INVALID);
        for (int bad : NO_CELLS) {
            refused("cost(" + bad + ", 0)", c -> c.cost(bad, 0), INVALID);
        }
        due("cost of too great", Scenes.played("a=99999;b=a*a;").cost(1, 0), 1);
    }

    private void questions() {
        RememberedCells asked = Scenes.rich();
        RememberedCells other = Scenes.rich();
        String once = Look.at(asked);
        asked.would(0, 5, 2);
        asked.would(3, 5, 4);
        asked.would(5, 5, 5);
        checks.due("everything asked twice", Look.at(asked), once);
        asked = Scenes.rich();
        asked.cost(2, 0);
        asked.fresh(2);
        asked.used(2);
        asked.usedBy(0);
        asked.would(0, 5, 2);
        unchanged("questions", asked, other);
    }

    // ---- promises 8 to 10

    private void forget() {
        refused("forget what is not remembered", c -> c.forget(5), IMPOSSIBLE);
        refused("forget a value", c -> c.forget(0), IMPOSSIBLE);
        RememberedCells x = Scenes.played("a=3;b=a+a;c=b+b;");
        x.ask(2);
        due("forget(1)", x.forget(1), 1);
        due("forgotten", x.count(5), 1);
        due("a change", x.count(8), 3);
        due("forget(1) again", x.forget(1), IMPOSSIBLE);
        due("c is taken all the same", x.cost(2, 2), 1);
        for (int bad : NO_CELLS) {
            refused("forget(" + bad + ")", c -> c.forget(bad), INVALID);
        }
        due("forget(2)", x.forget(2), 0);
    }

    private void forgottenMeanwhile() {
        RememberedCells x = Scenes.played("a=3;b=a+a;c=b+b;");
        x.ask(2);
        x.forget(1);
        x.define(9, 1);
        due("the same answer", x.ask(2), 12);
        due("b worked out without one to compare", x.rememberedOf(1, 1), 4);
        due("so c is worked out, too", x.count(2), 4);
        due("and is the same", x.count(7), 1);
        due("c stays changed as before", x.rememberedOf(2, 1), 3);
        x.forget(1);
        due("ask b at the same revision", x.ask(1), 6);
        due("it is changed at that", x.rememberedOf(1, 1), 4);
        due("c is taken then", x.cost(2, 2), 1);
        x.define(9, 2);
        due("and kept later", x.cost(2, 1), 2);
    }

    private void bound() {
        RememberedCells x = Scenes.played("a=1;b=a+a;c=b+b;d=c+c;");
        x.ask(3);
        due("bound(2)", x.bound(2), 10);
        due("nothing is forgotten yet", x.count(1), 3);
        due("nor by a cost", x.cost(3, 2) + x.count(1), 4);
        due("it is a change", x.count(8), 3);
        due("asking a value", x.ask(0), 1);
        due("the one used longest ago goes", x.which(1), 12);
        due("forgotten", x.count(5), 1);
        due("bound(2) as it is", x.bound(2), 2);
        due("it is a change, too", x.count(8), 4);
        due("bound(0)", x.bound(0), 2);
        due("ask(3) is answered", x.ask(3), 8);
        due("and forgotten", x.count(1), 0);
        due("all forgotten", x.count(5), 3);
        due("bound(10)", x.bound(10), 0);
        due("bound(9)", x.bound(9), 10);
        due("bound(10) again", x.bound(10), 9);
        for (int bad : new int[] {-1, 11, Integer.MIN_VALUE, Integer.MAX_VALUE}) {
            refused("bound(" + bad + ")", c -> c.bound(bad), INVALID);
        }
        x.bound(1);
        x.ask(3);
        due("only what was asked is left", x.which(1), 8);
        due("two more are forgotten", x.count(5), 5);
    }

    private void rememberedOf() {
        RememberedCells x = Scenes.played("a=3;b=4;c=b-a;d=c?a:b;e=b+b;");
        x.define(9, 1);
        x.ask(3);
        x.ask(4);
        int[][] due = {
            {2, 1, 6, 6, 2, 1, 0, 0},
            {3, 3, 6, 6, 2, 2, 0, 1},
            {4, 8, 6, 6, 2, 1, 1, 2}};
        for (int[] row : due) {
            for (int what = 0; what <= 6; what++) {
                due("rememberedOf(" + row[0] + ", " + what + ")", x.rememberedOf(row[0], what), row[what + 1]);
            }
        }
        for (int what = 0; what <= 6; what++) {
            due("of a value, " + what, x.rememberedOf(0, what), MISSING);
        }
        for (int bad : NO_CELLS) {
            due("rememberedOf(" + bad + ", 0)", x.rememberedOf(bad, 0), INVALID);
        }
        due("rememberedOf(0, -1): invalid rather than not found", x.rememberedOf(0, -1), INVALID);
        due("rememberedOf(0, 7): invalid rather than not found", x.rememberedOf(0, 7), INVALID);
        x = Scenes.played("a=99999;b=a*a;c=b?d:e;");
        x.ask(2);
        due("one cell used", x.rememberedOf(2, 3), 1);
        due("the first one", x.rememberedOf(2, 4), 1);
        due("no second one", x.rememberedOf(2, 5), MISSING);
    }

    private void places() {
        RememberedCells x = Scenes.played("a=1;b=a+a;c=a*a;d=b+c;");
        x.ask(3);
        due("b, c, d", x.rememberedOf(1, 6) * 100 + x.rememberedOf(2, 6) * 10 + x.rememberedOf(3, 6), 12);
        x.ask(1);
        due("taken: c, d, b", x.rememberedOf(2, 6) * 100 + x.rememberedOf(3, 6) * 10 + x.rememberedOf(1, 6), 12);
        x.define(9, 1);
        x.ask(2);
        due("kept: d, b, c", x.rememberedOf(3, 6) * 100 + x.rememberedOf(1, 6) * 10 + x.rememberedOf(2, 6), 12);
        x.cost(3, 0);
        x.fresh(3);
        due("asked for a cost, the same", x.rememberedOf(3, 6), 0);
        x.forget(3);
        due("b, c", x.rememberedOf(1, 6) * 10 + x.rememberedOf(2, 6), 1);
        x.bound(1);
        x.ask(0);
        due("c stays", x.which(1), 4);
    }

    // ---- promises 11 to 15

    private void which() {
        RememberedCells x = Scenes.played("a=99999;b=a*a;c=c+a;d=c+b;e=a+a;f=b?c:c;g=a?e:c;");
        due("formulas", x.which(0), 126);
        due("none remembered", x.which(1), 0);
        x.ask(4);
        x.ask(1);
        due("remembered", x.which(1), 18);
        due("seen now", x.which(2), 18);
        x.define(9, 1);
        due("remembered still", x.which(1), 18);
        due("not seen now", x.which(2), 0);
        x.ask(4);
        due("e seen now", x.which(2), 16);
        due("rings", x.which(3), 12);
        due("too great", x.which(4), 34);
        x.define(0, 0);
        due("rings by another choice", x.which(3), 4 + 8 + 32 + 64);
        due("none too great, b's old answer does not count", x.which(4), 0);
        due("which(-1)", x.which(-1), INVALID);
        due("which(5)", x.which(5), INVALID);
    }

    private void used() {
        RememberedCells x = Scenes.played("a=1;b=a+a;c=b?d:e;d=f+f;e=g+g;h=h+a;i=c-c;");
        due("used by a value", x.used(0), 0);
        due("used for b", x.used(1), 1);
        due("used for c", x.used(2), 1 + 2 + 8 + 32);
        due("used for i", x.used(8), 1 + 2 + 4 + 8 + 32);
        due("used for h", x.used(7), IMPOSSIBLE);
        refused("used for a ring", c -> c.used(5), IMPOSSIBLE);
        due("a is used for", x.usedBy(0), 2 + 4 + 256);
        due("f is used for", x.usedBy(5), 4 + 8 + 256);
        due("g is used for, not chosen", x.usedBy(6), 16);
        due("c is used for, not itself", x.usedBy(2), 256);
        due("a ring is used for", x.usedBy(7), 0);
        due("j is used for", x.usedBy(9), 0);
        for (int bad : NO_CELLS) {
            refused("used(" + bad + ")", c -> c.used(bad), INVALID);
            refused("usedBy(" + bad + ")", c -> c.usedBy(bad), INVALID);
        }
        x.ask(2);
        due("used for c, which is remembered", x.used(2), 1 + 2 + 8 + 32);
        due("a is used for, c being remembered", x.usedBy(0), 2 + 4 + 256);
        x.define(0, 0);
        due("worked out afresh, e is chosen now", x.used(2), 1 + 2 + 16 + 64);
        due("and g used for c", x.usedBy(6), 4 + 16 + 256);
        x = Scenes.played("a=99999;b=a*a;c=b?d:e;f=b+d;");
        due("used for a choice by too great", x.used(2), 3);
        due("d is used for the sum alone", x.usedBy(3), 32);
    }

    private void would() {
        RememberedCells x = Scenes.played("a=1;b=a+a;c=b?d:e;d=7;e=e+a;f=b*b;");
        x.ask(2);
        due("would a be 5, b", x.would(0, 5, 1), 10);
        due("would a be as it is, c", x.would(0, 1, 2), 7);
        due("would b be a value, c", x.would(1, 1, 2), 7);
        due("would a be asked itself", x.would(0, -99999, 0), -99999);
        due("would a be 0, c", x.would(0, 0, 2), IMPOSSIBLE);
        due("would b be 99999, f", x.would(1, 99999, 5), LIMIT);
        refused("would come to a ring", c -> c.would(3, 0, 5), IMPOSSIBLE);
        refused("would be too great", c -> c.would(0, 1, 4), LIMIT);
        due("would a ring be broken", x.would(4, 3, 4), 3);
        due("and another cell", x.would(9, 3, 1), 2);
        for (int bad : NO_CELLS) {
            refused("would(" + bad + ", 0, 0)", c -> c.would(bad, 0, 0), INVALID);
            refused("would(0, 0, " + bad + ")", c -> c.would(0, 0, bad), INVALID);
        }
        for (int bad : NO_VALUES) {
            refused("would(0, " + bad + ", 4)", c -> c.would(0, bad, 4), INVALID);
        }
    }

    private void count() {
        RememberedCells x = Scenes.played("a=1;b=a?c:d;e=b+b;");
        x.ask(4);
        x.define(0, 2);
        x.ask(4);
        x.define(2, 3);
        x.bound(1);
        x.ask(4);
        x.define(3, 1);
        x.cost(4, 0);
        x.fresh(4);
        int[] due = {6, 1, 5, 1, 4, 1, 1, 1, 4, 18};
        for (int what = 0; what < due.length; what++) {
            due("count(" + what + ")", x.count(what), due[what]);
        }
        for (int bad : new int[] {-1, 10, Integer.MIN_VALUE, Integer.MAX_VALUE}) {
            due("count(" + bad + ")", x.count(bad), INVALID);
        }
    }

    // ---- promise 16

    private void undo() {
        for (int left = 2; left >= 0; left--) {
            RememberedCells undone = afterChanges(3);
            for (int states = 3; states > left; states--) {
                due("undo", undone.undo(), states);
            }
            checks.due("the state " + left + " behind play", Look.at(undone), Look.at(afterChanges(left)));
        }
        RememberedCells x = afterChanges(0);
        due("undo play", x.undo(), 0);
        due("undo nothing", x.undo(), IMPOSSIBLE);
        due("the revision", x.count(0), 0);
        due("the formulas", x.which(0), 0);
        due("the text stays", x.count(9), 16);
        x = new RememberedCells();
        x.define(0, 5);
        x.formula(0, SUM, 1, 1, 0);
        due("undo formula", x.undo(), 1);
        due("a value again", x.cellOf(0, 1), 5);
        due("at its revision", x.count(0), 1);
        due("undo define", x.undo(), 0);
        due("0 again", x.cellOf(0, 1), 0);
    }

    /** A state behind play, and none, one, two or three changes more. */
    private static RememberedCells afterChanges(int changes) {
        RememberedCells x = Scenes.played("a=3;b=a+a;c=b+b;");
        if (changes >= 1) {
            x.ask(2);
        }
        if (changes >= 2) {
            x.forget(1);
        }
        if (changes >= 3) {
            x.bound(0);
        }
        return x;
    }

    private void history() {
        RememberedCells x = new RememberedCells();
        for (int value = 1; value <= 6; value++) {
            x.define(0, value);
            due("states after " + value, x.count(8), Math.min(value, 4));
        }
        due("undo of 6", x.undo(), 3);
        due("5 again", x.cellOf(0, 1), 5);
        x.define(0, 9);
        due("states", x.count(8), 4);
        for (int left = 3; left >= 0; left--) {
            due("undo", x.undo(), left);
        }
        due("what is left after all", x.cellOf(0, 1), 2);
        due("its revision", x.count(0), 2);
        refused("undo of nothing", RememberedCells::new, c -> c.undo(), IMPOSSIBLE);
        x.define(0, 2);
        due("a definition as it is is a change", x.count(8), 1);
        x.clearText();
        x.type('a');
        x.which(0);
        x.fresh(0);
        x.would(0, 1, 0);
        due("these are none", x.count(8), 1);
    }

    // ---- promises 17 to 20

    private void type() {
        RememberedCells x = new RememberedCells();
        due("type(32)", x.type(32), 1);
        due("type(126)", x.type(126), 2);
        for (int bad : new int[] {31, 127, -1, 0, 65536 + 97, Integer.MIN_VALUE, Integer.MAX_VALUE}) {
            refused("type(" + bad + ")", c -> c.type(bad), INVALID);
        }
        for (int length = 3; length <= 60; length++) {
            due("type('x')", x.type('x'), length);
        }
        due("a full text can be whole", Scenes.withFullText().fault(0), MISSING);
        refused("type in a full text", Scenes::withFullText, c -> c.type('x'), LIMIT);
        refused("invalid rather than the limit", Scenes::withFullText, c -> c.type(127), INVALID);
        due("the length", x.count(9), 60);
        due("clearText()", x.clearText(), 60);
        due("the length then", x.count(9), 0);
        due("clearText() of nothing", x.clearText(), 0);
        due("no change", x.count(8), 0);
        due("type after it", x.type('y'), 1);
    }

    private void fault(String text, int position, int cause) {
        RememberedCells x = new RememberedCells();
        Scenes.write(x, text);
        due("fault(0) of " + text, x.fault(0), position);
        due("fault(1) of " + text, x.fault(1), cause);
    }

    private void faults() {
        String[] whole = {"", "a=1;", "j=-99999;", "a=00000;", "b=-0;", "a=b+c;", "a=b-c;", "a=b*c;", "a=b^c;",
            "j=a?b:j;", "a=1;a=2;a=a+a;"};
        for (String text : whole) {
            fault(text, MISSING, MISSING);
        }
        String[] broken = {"", "a", "a=", "a=-", "a=1", "a=12345", "a=-12345", "a=b", "a=b+", "a=b+c", "a=b?", "a=b?c",
            "a=b?c:", "a=b?c:d"};
        for (String start : broken) {
            if (!start.isEmpty()) {
                fault(start, 0, start.length());
                fault("a=1;b=c+d;" + start, 10, start.length());
            }
            fault(start + " =1;", 0, start.length());
            fault("j=5;" + start + "{", 4, start.length());
        }
        fault("k=1;", 0, 0);
        fault("`=1;", 0, 0);
        fault("A=1;", 0, 0);
        fault(";", 0, 0);
        fault("a=1;;", 4, 0);
        fault("a:1;", 0, 1);
        fault("a=;", 0, 2);
        fault("a=+1;", 0, 2);
        fault("a=k+a;", 0, 2);
        fault("a=-;", 0, 3);
        fault("a=--1;", 0, 3);
        fault("a=b;", 0, 3);
        fault("a=b/c;", 0, 3);
        fault("a=1+b;", 0, 3);
        fault("a=b+;", 0, 4);
        fault("a=b?;", 0, 4);
        fault("a=b?c:;", 0, 6);
        fault("a=b+1;", 0, 4);
        fault("a=b+k;", 0, 4);
        fault("a=b+c+d;", 0, 5);
        fault("a=b?c;", 0, 5);
        fault("a=b?c:1;", 0, 6);
        fault("a=b?c:d:", 0, 7);
        fault("a=123456;", 0, 7);
        fault("a=-123456;", 0, 8);
        fault("a=b+c:d;", 0, 5);
        fault("a=1;b=2;c=3", 8, 3);
        fault("a=x;b=y;", 0, 2);
        RememberedCells x = new RememberedCells();
        due("fault(-1)", x.fault(-1), INVALID);
        due("fault(2): invalid rather than not found", x.fault(2), INVALID);
    }

    private void play() {
        RememberedCells x = new RememberedCells();
        due("play() of nothing", x.play(), 0);
        due("it is a change", x.count(8), 1);
        Scenes.write(x, "a=5;b=-12;c=a+b;d=a-b;e=a*b;f=a^b;g=a?b:c;h=00012;i=-0;");
        due("play()", x.play(), 8);
        due("one change", x.count(8), 2);
        int[] answers = {5, -12, -7, 17, -60, 5, -12, 12, 0, 0};
        for (int cell = 0; cell < answers.length; cell++) {
            due("played, fresh(" + cell + ")", x.fresh(cell), answers[cell]);
        }
        due("the text stays", x.count(9), 55);
        due("play() again", x.play(), 8);
        due("a change again", x.count(8), 3);
        x.ask(2);
        due("answers are kept by what is so already", x.play() * 10 + x.count(1), 81);
        Scenes.write(x, "a=6;a=5;");
        due("two definitions of one cell", x.play(), 10);
        due("c would be worked out", x.cost(2, 0), 1);
        due("and be the same", x.ask(2) * 10 + x.count(7), -69);
        due("the cell that was changed last", x.rememberedOf(2, 2), 10);
        x.undo();
        due("undo play()", x.undo(), 2);
        due("as before both", x.count(0), 8);
        x.define(0, 77);
        x.play();
        due("undo play() behind define", x.undo(), 3);
        due("the value that was defined", x.cellOf(0, 1), 77);
        x = Scenes.played("j=99999;i=-99999;");
        due("the greatest number", x.fresh(9), 99999);
        due("the least number", x.fresh(8), -99999);
    }

    private void playRefused() {
        RememberedCells x = Scenes.played("a=5;b=a+a;");
        x.ask(1);
        Scenes.write(x, "a=6;b=7;c=d");
        refused("play() with a fault", c -> c.play(), IMPOSSIBLE);
        x.type('+');
        x.type('a');
        x.type(';');
        due("play() of the whole text", x.play(), 5);
        due("d + a", x.fresh(2), 6);
        Scenes.write(x, "x");
        due("play() with a fault at the beginning", x.play(), IMPOSSIBLE);
    }
}
