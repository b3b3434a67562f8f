import java.io.IOException;

/** The promises 1 to 16: each range of an argument, and each "if" of an error, has a test of its own. */
public final class RangesTest {
    private static final int IMPOSSIBLE = RememberedCells.NOT_POSSIBLE;
    private static final int INVALID = RememberedCells.INVALID_ARGUMENT;
    private static final int LIMIT = RememberedCells.LIMIT_REACHED;
    private static final int MISSING = RememberedCells.NOT_FOUND;
    private static final int GREAT = 2000000000;
    private static final String CELL = "- `cell`: 0 to 9";

    private final Sentences said = new Sentences();

    private RangesTest() throws IOException {
    }

    public static void main(String[] args) throws IOException {
        RangesTest test = new RangesTest();
        test.newObject();
        test.define();
        test.formula();
        test.formulaThird();
        test.cellOf();
        test.ask();
        test.fresh();
        test.cost();
        test.forget();
        test.bound();
        test.rememberedOf();
        test.rememberedPlace();
        test.which();
        test.whichAfresh();
        test.used();
        test.usedBy();
        test.would();
        test.count();
        test.undo();
        test.said.end();
    }

    private static RememberedCells played(String... texts) {
        return Scenes.played(texts);
    }

    private void newObject() {
        said.in("Promise 1: A new object");
        said.that("Creates ten cells with the value 0.");
        RememberedCells x = new RememberedCells();
        for (int cell = 0; cell <= 9; cell++) {
            said.due("cellOf(" + cell + ", 0)", x.cellOf(cell, 0), 0);
            said.due("cellOf(" + cell + ", 1)", x.cellOf(cell, 1), 0);
            said.due("rememberedOf(" + cell + ", 0)", x.rememberedOf(cell, 0), MISSING);
        }
        said.due("cellOf(10, 0)", x.cellOf(10, 0), INVALID);
        for (int what = 0; what <= 9; what++) {
            said.due("count(" + what + ")", x.count(what), what == 6 ? 10 : 0);
        }
        for (int what = 0; what <= 4; what++) {
            said.due("which(" + what + ")", x.which(what), 0);
        }
        RememberedCells other = new RememberedCells();
        Scenes.write(other, "a=1;b=a+a;x");
        other.bound(3);
        said.unchanged("calls on another object", x, new RememberedCells());
    }

    private void define() {
        said.in("Promise 2: define");
        said.that(CELL);
        said.range("define(., 1)", 0, 9, (x, cell) -> x.define(cell, 1));
        said.that("- `value`: -99999 to 99999");
        said.range("define(0, .)", -99999, 99999, (x, value) -> x.define(0, value));
        said.that("Returns the revision then; INVALID_ARGUMENT if an argument is out of range.");
        RememberedCells x = new RememberedCells();
        said.due("define(0, -99999)", x.define(0, -99999), 1);
        said.due("define(9, 99999)", x.define(9, 99999), 2);
        said.due("define(9, 99999) again", x.define(9, 99999), 2);
        said.refused("both out of range", Scenes::rich, c -> c.define(10, 100000), INVALID);
        said.refused("a value out of range by one, as it nearly is", Scenes::rich, c -> c.define(3, 100000), INVALID);
    }

    private void formula() {
        said.in("Promise 3: formula");
        said.that(CELL);
        said.range("formula(., 0, 0, 0, 0)", 0, 9, (x, cell) -> x.formula(cell, 0, 0, 0, 0));
        said.that("- `kind`: 0 to 4");
        said.range("formula(2, ., 0, 0, 0)", 0, 4, (x, kind) -> x.formula(2, kind, 0, 0, 0));
        said.that("- `first`: 0 to 9: x");
        said.that("- `second`: 0 to 9: y");
        for (int kind = 0; kind <= 4; kind++) {
            int of = kind;
            said.that("- `first`: 0 to 9: x");
            said.range("formula(2, " + kind + ", ., 0, 0)", 0, 9, (x, first) -> x.formula(2, of, first, 0, 0));
            said.that("- `second`: 0 to 9: y");
            said.range("formula(2, " + kind + ", 0, ., 0)", 0, 9, (x, second) -> x.formula(2, of, 0, second, 0));
        }
        said.that("Returns the revision then; INVALID_ARGUMENT if an argument is out of range.");
        RememberedCells x = new RememberedCells();
        said.due("formula(9, 4, 9, 9, 9)", x.formula(9, 4, 9, 9, 9), 1);
        said.due("formula(0, 0, 0, 0, 0)", x.formula(0, 0, 0, 0, 0), 2);
        said.due("formula(0, 0, 0, 0, 0) again", x.formula(0, 0, 0, 0, 0), 2);
        said.refused("all out of range", Scenes::rich, c -> c.formula(10, 5, 10, 10, 10), INVALID);
    }

    private void formulaThird() {
        said.in("Promise 3: formula");
        said.that("- `third`: 0 to 9: z (for kinds 0 to 3 it must be 0, and is no part of the formula)");
        for (int kind = 0; kind <= 3; kind++) {
            int of = kind;
            said.range("formula(2, " + kind + ", 0, 0, .)", 0, 0, (x, third) -> x.formula(2, of, 0, 0, third));
            RememberedCells x = new RememberedCells();
            x.formula(2, kind, 1, 1, 0);
            said.due("z of the kind " + kind, x.cellOf(2, 4), MISSING);
            said.due("used by the kind " + kind, x.used(2), 2);
            x.formula(2, 4, 1, 1, 7);
            x.formula(2, kind, 1, 1, 0);
            said.due("z of the kind " + kind + " behind the kind 4", x.cellOf(2, 4), MISSING);
        }
        said.range("formula(2, 4, 0, 0, .)", 0, 9, (x, third) -> x.formula(2, 4, 0, 0, third));
    }

    private void cellOf() {
        said.in("Promise 4: cellOf");
        said.that(CELL);
        said.range("cellOf(., 0)", 0, 9, (x, cell) -> x.cellOf(cell, 0));
        said.that("- `what`: 0: 0 if it is a value, 1 plus the kind if it is a formula");
        said.range("cellOf(0, .)", 0, 4, (x, what) -> x.cellOf(0, what));
        said.range("cellOf(1, .)", 0, 4, (x, what) -> x.cellOf(1, what));
        RememberedCells x = new RememberedCells();
        for (int cell = 0; cell <= 4; cell++) {
            x.formula(cell, cell, 9, 8, cell == 4 ? 7 : 0);
            said.due("cellOf(" + cell + ", 0)", x.cellOf(cell, 0), cell + 1);
        }
        x.define(5, -7);
        said.due("cellOf(5, 0)", x.cellOf(5, 0), 0);
        said.that("1: its value; 2, 3, 4: x, y, z (z of kind 4 alone)");
        said.that("NOT_FOUND if there is no such thing");
        int[][] rows = {{0, MISSING, 9, 8, MISSING}, {1, MISSING, 9, 8, MISSING}, {2, MISSING, 9, 8, MISSING},
            {3, MISSING, 9, 8, MISSING}, {4, MISSING, 9, 8, 7}, {5, -7, MISSING, MISSING, MISSING},
            {6, 0, MISSING, MISSING, MISSING}};
        for (int[] row : rows) {
            for (int what = 1; what <= 4; what++) {
                said.due("cellOf(" + row[0] + ", " + what + ")", x.cellOf(row[0], what), row[what]);
            }
        }
        x.define(4, 0);
        said.due("z of what is a value now", x.cellOf(4, 4), MISSING);
        said.due("x of what is a value now", x.cellOf(4, 2), MISSING);
        said.refused("cellOf(10, 5)", Scenes::rich, c -> c.cellOf(10, 5), INVALID);
        said.refused("cellOf(0, 2) of a value", Scenes::rich, c -> c.cellOf(0, 2), MISSING);
        said.refused("cellOf(1, 1) of a formula", Scenes::rich, c -> c.cellOf(1, 1), MISSING);
    }

    private void ask() {
        said.in("Promise 5: ask");
        said.that(CELL);
        said.range("ask(.)", 0, 9, (x, cell) -> x.ask(cell));
        said.that("This is a change also if the answer is too great.");
        RememberedCells x = played("a=99999;b=a*a;");
        said.due("states before", x.count(8), 1);
        said.that("Returns its answer, or 2000000000 if that is too great");
        said.due("ask(1)", x.ask(1), GREAT);
        said.due("states", x.count(8), 2);
        said.due("ask(1), taken", x.ask(1), GREAT);
        said.due("states then", x.count(8), 3);
        said.due("ask(0)", x.ask(0), 99999);
        said.due("ask(9)", x.ask(9), 0);
        said.that("NOT_POSSIBLE if it comes to a ring");
        said.refused("ask of a ring", Scenes::rich, c -> c.ask(5), IMPOSSIBLE);
        said.refused("ask of what uses a ring", RangesTest::withRing, c -> c.ask(7), IMPOSSIBLE);
    }

    /** c and d are a ring, h uses it, i would, and e was remembered before it came to the ring. */
    private static RememberedCells withRing() {
        RememberedCells x = played("a=1;b=a+a;e=b+c;");
        x.ask(4);
        Scenes.write(x, "c=d+d;d=c+c;h=b+c;i=a?b:c;");
        x.play();
        return x;
    }

    private void fresh() {
        said.in("Promise 6: fresh");
        said.that(CELL);
        said.range("fresh(.)", 0, 9, (x, cell) -> x.fresh(cell));
        said.that("without what is remembered; nothing changes");
        RememberedCells x = Scenes.rich();
        said.due("fresh(2), though 12 is remembered", x.fresh(2), 16);
        said.due("fresh(1)", x.fresh(1), 8);
        said.unchanged("fresh", x, Scenes.rich());
        said.that("LIMIT_REACHED if it is too great");
        said.refused("fresh of too great", Scenes::rich, c -> c.fresh(4), LIMIT);
        said.that("NOT_POSSIBLE if it comes to a ring");
        said.refused("fresh of a ring", Scenes::rich, c -> c.fresh(5), IMPOSSIBLE);
        said.refused("fresh of what uses a ring", RangesTest::withRing, c -> c.fresh(7), IMPOSSIBLE);
        said.refused("fresh of what came to a ring", RangesTest::withRing, c -> c.fresh(4), IMPOSSIBLE);
        said.due("fresh beside a ring", withRing().fresh(8), 2);
    }

    private void cost() {
        said.in("Promise 7: cost");
        said.that(CELL);
        said.range("cost(., 0)", 0, 9, (x, cell) -> x.cost(cell, 0));
        said.that("- `what`: 0: how many formulas would be worked out; 1: kept; 2: taken");
        said.range("cost(1, .)", 0, 2, (x, what) -> x.cost(1, what));
        said.range("cost(0, .)", 0, 2, (x, what) -> x.cost(0, what));
        RememberedCells x = played("a=1;b=2;c=a+a;d=b+b;e=c+d;");
        cost("at first", x, 4, 3, 0, 0);
        x.ask(4);
        cost("then", x, 4, 0, 0, 1);
        x.define(9, 1);
        cost("later", x, 4, 0, 3, 0);
        x.define(0, 2);
        cost("a changed", x, 4, 2, 1, 1);
        cost("a value", x, 0, 0, 0, 0);
        said.that("nothing changes");
        said.due("still as before", x.count(2) * 100 + x.count(3) * 10 + x.count(4), 300);
        x = Scenes.rich();
        for (int what = 0; what <= 2; what++) {
            x.cost(2, what);
            x.cost(0, what);
        }
        said.unchanged("cost", x, Scenes.rich());
        said.that("NOT_POSSIBLE if it comes to a ring");
        for (int what = 0; what <= 2; what++) {
            int of = what;
            said.refused("cost of a ring, " + what, Scenes::rich, c -> c.cost(5, of), IMPOSSIBLE);
            said.refused("cost of what uses a ring, " + what, RangesTest::withRing, c -> c.cost(7, of), IMPOSSIBLE);
            said.refused("cost of what came to a ring, " + what, RangesTest::withRing, c -> c.cost(4, of), IMPOSSIBLE);
        }
    }

    private void cost(String call, RememberedCells x, int cell, int worked, int kept, int taken) {
        said.due(call + ", cost(" + cell + ", 0)", x.cost(cell, 0), worked);
        said.due(call + ", cost(" + cell + ", 1)", x.cost(cell, 1), kept);
        said.due(call + ", cost(" + cell + ", 2)", x.cost(cell, 2), taken);
    }

    private void forget() {
        said.in("Promise 8: forget");
        said.that(CELL);
        said.range("forget(.)", 0, 9, (x, cell) -> x.forget(cell));
        said.that("Returns how many answers are remembered then");
        RememberedCells x = Scenes.withNineAnswers();
        int left = 8;
        for (int cell : new int[] {9, 1, 5, 2, 3, 8, 7, 6, 4}) {
            said.due("forget(" + cell + ")", x.forget(cell), left);
            said.due("count(1) behind it", x.count(1), left);
            said.due("count(5) behind it", x.count(5), 9 - left);
            said.due("its answer", x.rememberedOf(cell, 0), MISSING);
            left--;
        }
        said.that("NOT_POSSIBLE if it has none");
        said.due("forget(4) again", x.forget(4), IMPOSSIBLE);
        said.refused("forget of a value", Scenes::rich, c -> c.forget(0), IMPOSSIBLE);
        said.refused("forget of a formula", Scenes::rich, c -> c.forget(5), IMPOSSIBLE);
        said.refused("forget again", RangesTest::forgottenOnce, c -> c.forget(1), IMPOSSIBLE);
        said.refused("forget of one that went by a definition", RangesTest::redefined, c -> c.forget(1), IMPOSSIBLE);
    }

    private static RememberedCells forgottenOnce() {
        RememberedCells x = played("a=1;b=a+a;c=b+b;");
        x.ask(2);
        x.forget(1);
        return x;
    }

    private static RememberedCells redefined() {
        RememberedCells x = played("a=1;b=a+a;c=b+b;");
        x.ask(2);
        x.formula(1, 2, 0, 0, 0);
        return x;
    }

    private void bound() {
        said.in("Promise 9: bound");
        said.that("- `bound`: 0 to 10");
        said.range("bound(.)", 0, 10, (x, bound) -> x.bound(bound));
        said.that("Returns what it was");
        RememberedCells x = new RememberedCells();
        int before = 10;
        for (int bound : new int[] {0, 10, 1, 9, 9, 5, 10, 10, 0, 0}) {
            said.due("bound(" + bound + ")", x.bound(bound), before);
            said.due("count(6)", x.count(6), bound);
            before = bound;
        }
        said.that("Sets the bound of remembered answers (which counts from the next asking on).");
        x = Scenes.withNineAnswers();
        x.bound(0);
        said.due("remembered still", x.count(1), 9);
        said.due("taken still", x.cost(9, 2), 1);
        x.bound(10);
        x.ask(9);
        said.due("not asked meanwhile", x.count(1), 9);
        x.bound(8);
        x.ask(0);
        said.due("asked", x.count(1), 8);
    }

    private void rememberedOf() {
        said.in("Promise 10: rememberedOf");
        said.that(CELL);
        said.range("rememberedOf(., 0)", 0, 9, (x, cell) -> x.rememberedOf(cell, 0));
        said.that("- `what`: 0: the answer, or 2000000000 if it is too great");
        said.range("rememberedOf(4, .)", 0, 6, (x, what) -> x.rememberedOf(4, what));
        said.range("rememberedOf(0, .)", 0, 6, (x, what) -> x.rememberedOf(0, what));
        said.due("too great", Scenes.rich().rememberedOf(4, 0), GREAT);
        said.that("1: the revision at which it was changed; 2: the revision at which it was seen last");
        RememberedCells x = played("a=3;b=a+a;c=j?a:b;d=b?a:a;");
        x.ask(2);
        x.define(8, 1);
        x.ask(2);
        x.ask(3);
        int[][] rows = {{1, 6, 4, 5, 2, 0, 0, 1}, {2, 6, 4, 5, 2, 9, 1, 0}, {3, 3, 5, 5, 2, 1, 0, 2}};
        for (int[] row : rows) {
            for (int what = 0; what <= 6; what++) {
                said.due("rememberedOf(" + row[0] + ", " + what + ")", x.rememberedOf(row[0], what), row[what + 1]);
            }
        }
        said.that("3: how many cells were used for it (a cell that is used twice counts twice); 4 and 5: the first");
        said.due("a twice", x.rememberedOf(1, 3), 2);
        said.due("a first", x.rememberedOf(1, 4), 0);
        said.due("a second", x.rememberedOf(1, 5), 0);
        said.that("NOT_FOUND if it has none, or there is no second cell");
        for (int what = 0; what <= 6; what++) {
            int of = what;
            said.refused("of a value, " + what, Scenes::rich, c -> c.rememberedOf(0, of), MISSING);
            said.refused("of a formula, " + what, Scenes::rich, c -> c.rememberedOf(5, of), MISSING);
            said.refused("of a forgotten one, " + what, RangesTest::forgottenOnce, c -> c.rememberedOf(1, of), MISSING);
            said.refused("of a redefined one, " + what, RangesTest::redefined, c -> c.rememberedOf(1, of), MISSING);
        }
        x = played("a=99999;b=a*a;c=b?d:e;");
        x.ask(2);
        said.due("one cell alone", x.rememberedOf(2, 3), 1);
        said.due("the first one", x.rememberedOf(2, 4), 1);
        said.due("no second one", x.rememberedOf(2, 5), MISSING);
        x.define(0, 1);
        said.due("no second one until it is asked", x.rememberedOf(2, 5), MISSING);
        x.ask(2);
        said.due("a second one then", x.rememberedOf(2, 5), 3);
    }

    private void rememberedPlace() {
        said.in("Promise 10: rememberedOf");
        said.that("6: its place among all remembered answers, 0 for the one that was used longest ago");
        RememberedCells x = Scenes.withNineAnswers();
        for (int cell = 1; cell <= 9; cell++) {
            said.due("rememberedOf(" + cell + ", 6)", x.rememberedOf(cell, 6), cell - 1);
        }
        x.ask(1);
        said.due("the first one, used again", x.rememberedOf(1, 6), 8);
        said.due("the one behind it", x.rememberedOf(2, 6), 0);
        said.due("the last one before", x.rememberedOf(9, 6), 7);
        x.forget(5);
        said.due("one ahead of the forgotten one", x.rememberedOf(4, 6), 2);
        said.due("one behind the forgotten one", x.rememberedOf(6, 6), 3);
        x.define(2, 1);
        said.due("the first one behind one that went by a definition", x.rememberedOf(3, 6), 0);
        x = played("b=a+a;");
        x.ask(1);
        said.due("the only one", x.rememberedOf(1, 6), 0);
    }

    private void which() {
        said.in("Promise 11: which");
        said.that("- `what`: 0: those that are formulas; 1: that have remembered answers");
        said.range("which(.)", 0, 4, (x, what) -> x.which(what));
        RememberedCells x = new RememberedCells();
        said.due("no formulas", x.which(0), 0);
        for (int cell = 0; cell <= 9; cell++) {
            x.formula(cell, 0, 0, 0, 0);
        }
        said.due("all formulas", x.which(0), 1023);
        x.define(0, 1);
        said.due("all but a", x.which(0), 1022);
        said.due("none remembered", x.which(1), 0);
        for (int cell = 0; cell <= 9; cell++) {
            x.ask(cell);
        }
        said.due("all but a remembered", x.which(1), 1022);
        said.that("2: whose remembered answers were seen last at the present revision");
        said.due("all but a seen now", x.which(2), 1022);
        x.define(0, 1);
        said.due("no new revision", x.which(2), 1022);
        x.define(0, 2);
        said.due("none seen at the new revision", x.which(2), 0);
        said.due("remembered still", x.which(1), 1022);
        x.ask(9);
        said.due("j seen now", x.which(2), 512);
        x.define(9, 1);
        said.due("j is a value now", x.which(0), 510);
        said.due("and is not remembered", x.which(1), 510);
    }

    private void whichAfresh() {
        said.in("Promise 11: which");
        said.that("3: that come to a ring; 4: that give \"too great\" (3 and 4 worked out afresh)");
        RememberedCells x = withRing();
        said.due("the ring, those that use it, and the one that was remembered before", x.which(3), 4 + 8 + 16 + 128);
        x.define(0, 0);
        said.due("and the one that chooses it now", x.which(3), 4 + 8 + 16 + 128 + 256);
        x.define(3, 0);
        said.due("no ring", x.which(3), 0);
        x = new RememberedCells();
        for (int cell = 0; cell <= 9; cell++) {
            x.formula(cell, 0, cell, cell, 0);
        }
        said.due("all rings", x.which(3), 1023);
        said.due("a ring is not too great", x.which(4), 0);
        x = played("a=99999;b=a*a;c=a*a;d=b?e:e;e=e+b;j=b-b;");
        said.due("too great, also by a choice", x.which(4), 2 + 4 + 8 + 512);
        said.due("too great is no ring", x.which(3), 16);
        x.ask(1);
        x.define(0, 1);
        said.due("b's remembered answer does not count", x.which(4), 0);
        x.ask(1);
        x.define(0, 99999);
        said.due("nor does the next one", x.which(4), 2 + 4 + 8 + 512);
        RememberedCells asked = Scenes.rich();
        for (int what = 0; what <= 4; what++) {
            asked.which(what);
        }
        said.unchanged("which", asked, Scenes.rich());
    }

    private void used() {
        said.in("Promise 12: used");
        said.that(CELL);
        said.range("used(.)", 0, 9, (x, cell) -> x.used(cell));
        said.that("also those that are used for these, and so on");
        RememberedCells x = Scenes.withNineAnswers();
        for (int cell = 0; cell <= 9; cell++) {
            said.due("used(" + cell + ")", x.used(cell), (1 << cell) - 1);
        }
        said.that("all cells that are used for the answer of a cell worked out afresh");
        x = played("a=1;b=a?c:d;c=e+e;d=f+f;g=b+b;");
        x.ask(1);
        x.define(0, 0);
        said.due("not those of the remembered answer", x.used(1), 1 + 8 + 32);
        said.due("nor for g", x.used(6), 1 + 2 + 8 + 32);
        said.that("Returns the set, without the cell itself");
        said.due("a value", x.used(0), 0);
        said.due("a formula of values", x.used(2), 16);
        said.that("NOT_POSSIBLE if it comes to a ring");
        said.refused("used of a ring", Scenes::rich, c -> c.used(5), IMPOSSIBLE);
        said.refused("used of what uses a ring", RangesTest::withRing, c -> c.used(7), IMPOSSIBLE);
        said.due("used beside a ring", withRing().used(8), 1 + 2);
        x = Scenes.rich();
        x.used(2);
        said.unchanged("used", x, Scenes.rich());
    }

    private void usedBy() {
        said.in("Promise 13: usedBy");
        said.that(CELL);
        said.range("usedBy(.)", 0, 9, (x, cell) -> x.usedBy(cell));
        said.that("Returns all cells for which a cell is used (as used() of them tells)");
        RememberedCells x = Scenes.withNineAnswers();
        for (int cell = 0; cell <= 9; cell++) {
            said.due("usedBy(" + cell + ")", x.usedBy(cell), 1023 & ~((2 << cell) - 1));
        }
        x.define(9, 0);
        said.due("usedBy(0) without j", x.usedBy(0), 510);
        said.due("usedBy(9)", x.usedBy(9), 0);
        x = played("a=1;b=a?c:d;c=e+e;d=f+f;");
        x.ask(1);
        said.due("chosen", x.usedBy(4), 2 + 4);
        said.due("not chosen", x.usedBy(5), 8);
        x.define(0, 0);
        said.due("afresh, not chosen", x.usedBy(4), 4);
        said.due("afresh, chosen", x.usedBy(5), 2 + 8);
        said.that("those that come to a ring left out");
        x = withRing();
        said.due("a", x.usedBy(0), 2 + 256);
        said.due("b", x.usedBy(1), 256);
        said.due("a cell of the ring", x.usedBy(2), 0);
        said.due("the other one", x.usedBy(3), 0);
        x = Scenes.rich();
        x.usedBy(0);
        x.usedBy(5);
        said.unchanged("usedBy", x, Scenes.rich());
    }

    private void would() {
        said.in("Promise 14: would");
        said.that(CELL);
        said.range("would(., 1, 2)", 0, 9, (x, cell) -> x.would(cell, 1, 2));
        said.that("- `value`: -99999 to 99999");
        said.range("would(3, ., 2)", -99999, 99999, (x, value) -> x.would(3, value, 2));
        said.that("- `asked`: 0 to 9: the cell whose answer it is");
        said.range("would(0, 1, .)", 0, 9, (x, asked) -> x.would(0, 1, asked));
        RememberedCells x = Scenes.rich();
        said.due("would(0, 5, 2)", x.would(0, 5, 2), 20);
        said.due("would(0, 4, 2), as it is", x.would(0, 4, 2), 16);
        said.due("would(1, 5, 2), of a formula", x.would(1, 5, 2), 10);
        said.due("would(0, 99999, 0), itself", x.would(0, 99999, 0), 99999);
        said.due("would(9, -99999, 9), itself", x.would(9, -99999, 9), -99999);
        said.due("would(9, 7, 2), not used", x.would(9, 7, 2), 16);
        said.due("would(5, 7, 5), a ring no more", x.would(5, 7, 5), 7);
        said.due("would(3, 31622, 4), not too great", x.would(3, 31622, 4), 999950884);
        said.unchanged("would", x, Scenes.rich());
        said.that("LIMIT_REACHED if it would be too great");
        said.refused("would(3, 31623, 4)", Scenes::rich, c -> c.would(3, 31623, 4), LIMIT);
        said.refused("would(3, -31623, 4)", Scenes::rich, c -> c.would(3, -31623, 4), LIMIT);
        x = played("a=31250;b=32000;c=a*b;d=c+e;f=j-c;g=f+e;");
        said.due("1000000000 itself", x.would(4, 0, 3), 1000000000);
        said.due("one more", x.would(4, 1, 3), LIMIT);
        said.due("-1000000000 itself", x.would(4, 0, 6), -1000000000);
        said.due("one less", x.would(4, -1, 6), LIMIT);
        said.that("NOT_POSSIBLE if it would come to a ring");
        said.refused("would of a ring", Scenes::rich, c -> c.would(0, 1, 5), IMPOSSIBLE);
        said.refused("would choose a ring", RangesTest::withRing, c -> c.would(0, 0, 8), IMPOSSIBLE);
        said.due("would choose none", withRing().would(0, 1, 8), 2);
        said.due("would break a ring", withRing().would(3, 4, 7), 10);
    }

    private void count() {
        said.in("Promise 15: count");
        said.that("- `what`: 0: the revision; 1: remembered answers; 2: formulas that were worked out so far");
        said.range("count(.)", 0, 9, (x, what) -> x.count(what));
        RememberedCells x = Scenes.rich();
        int[] due = {7, 3, 3, 0, 1, 0, 1, 0, 4, 11};
        for (int what = 0; what <= 9; what++) {
            said.due("count(" + what + ")", x.count(what), due[what]);
        }
        said.that("5: answers that were forgotten so far (by the bound or by forget)");
        x.ask(2);
        said.due("by the bound", x.count(5), 2);
        x.forget(2);
        said.due("by forget", x.count(5), 3);
        x = played("b=a+a;c=a+a;d=a+a;");
        x.ask(1);
        x.ask(2);
        x.ask(3);
        x.define(1, 0);
        x.formula(2, 2, 0, 0, 0);
        Scenes.write(x, "d=0;");
        x.play();
        said.due("not by definitions", x.count(5) * 10 + x.count(1), 0);
        said.that("7: answers that were worked out and were the same as remembered, so far");
        x = played("b=a*a;");
        x.ask(1);
        said.due("none remembered before", x.count(7), 0);
        x.define(0, 1);
        x.ask(1);
        said.due("another one", x.count(7), 0);
        x.define(0, -1);
        x.ask(1);
        said.due("the same", x.count(7), 1);
        x.ask(1);
        said.due("taken", x.count(7), 1);
        x.define(9, 1);
        x.ask(1);
        said.due("kept", x.count(7), 1);
        x.forget(1);
        x.ask(1);
        said.due("forgotten before", x.count(7), 1);
        said.that("8: states in the history; 9: the length of the text");
        said.due("none", new RememberedCells().count(8), 0);
        said.due("four", Scenes.rich().count(8), 4);
        said.due("empty", new RememberedCells().count(9), 0);
        said.due("full", Scenes.withFullText().count(9), 60);
    }

    private void undo() {
        said.in("Promise 16: undo");
        said.that("Restores the latest state of the history, which is removed from it.");
        RememberedCells x = new RememberedCells();
        x.define(0, 1);
        x.define(0, 2);
        said.due("undo", x.undo(), 1);
        said.due("the value", x.cellOf(0, 1), 1);
        said.due("states", x.count(8), 1);
        x.define(0, 3);
        said.due("states behind another change", x.count(8), 2);
        said.due("undo of it", x.undo(), 1);
        said.due("the value again", x.cellOf(0, 1), 1);
        said.that("Returns the number of states that are left in the history");
        said.due("undo of the last one", x.undo(), 0);
        said.unchanged("all undone", x, new RememberedCells());
        said.that("NOT_POSSIBLE if it is empty");
        said.refused("undo of a new one", RememberedCells::new, c -> c.undo(), IMPOSSIBLE);
        said.refused("undo of one with a text", () -> Scenes.written("a=1;"), c -> c.undo(), IMPOSSIBLE);
        x = Scenes.rich();
        for (int left = 3; left >= 0; left--) {
            said.due("undo of a full history", x.undo(), left);
        }
        said.due("undo of none", x.undo(), IMPOSSIBLE);
        said.due("what is left is the state before the oldest one that was kept", x.count(0), 6);
        said.due("nothing was asked then", x.count(1), 0);
    }
}
