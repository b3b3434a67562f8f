/** Long runs of drawn calls, each answered by the class and by the model. */
public final class ModelTest {
    private static final int RUNS = 6000;
    private static final int CALLS = 512;

    private long seed;
    private RememberedCells cells;
    private Model model;
    private int span;
    private int greatest;
    /** Of a hundred calls, how many define a value, how many define a formula, and how many ask. */
    private int[] shares;
    private String pending = "";

    private ModelTest() {
    }

    public static void main(String[] args) {
        Checks checks = new Checks();
        ModelTest test = new ModelTest();
        for (int run = 0; run < RUNS && !checks.hasFailed(); run++) {
            test.play(run, checks);
        }
        checks.end();
    }

    private void play(int run, Checks checks) {
        seed = run * 7919L + 17;
        cells = new RememberedCells();
        model = new Model();
        pending = "";
        span = draw(4) == 0 ? 2 + draw(8) : 10;
        greatest = new int[] {1, 3, 9, 1000, 31623, 99999}[draw(6)];
        shares = new int[][] {{12, 14, 24}, {6, 6, 35}, {10, 2, 40}, {3, 8, 45}}[draw(4)];
        StringBuilder calls = new StringBuilder();
        for (int i = 0; i < CALLS && !checks.hasFailed(); i++) {
            int before = calls.length();
            calls.append("\n  ");
            int[] answers = call(calls);
            if (answers[0] != answers[1]) {
                checks.due("run " + run + ", call " + i + ", all calls:" + calls.substring(0, before)
                    + calls.substring(before), answers[0], answers[1]);
            }
        }
        checks.isTrue("run " + run + " agrees", !checks.hasFailed());
    }

    /** A number from 0 to limit - 1, always the same ones for the same run. */
    private int draw(int limit) {
        seed = seed * 6364136223846793005L + 1442695040888963407L;
        return (int) ((seed >>> 33) % limit);
    }

    private boolean seldom() {
        return draw(40) == 0;
    }

    private int drawCell() {
        return seldom() ? new int[] {-1, 10, Integer.MIN_VALUE, Integer.MAX_VALUE}[draw(4)] : draw(span);
    }

    private int drawValue() {
        if (seldom()) {
            return new int[] {100000, -100000, 99999, -99999, Integer.MIN_VALUE, Integer.MAX_VALUE}[draw(6)];
        }
        return draw(2 * greatest + 1) - greatest;
    }

    private int drawUpTo(int last) {
        return seldom() ? new int[] {-1, last + 1, Integer.MIN_VALUE, Integer.MAX_VALUE}[draw(4)] : draw(last + 1);
    }

    private int[] call(StringBuilder told) {
        if (!pending.isEmpty()) {
            int character = pending.charAt(0);
            pending = pending.substring(1);
            told.append("type ").append((char) character);
            return both(cells.type(character), model.type(character));
        }
        int kind = draw(100);
        int asks = shares[0] + shares[1] + shares[2];
        if (kind < shares[0]) {
            return callDefine(told);
        }
        if (kind < shares[0] + shares[1]) {
            return callFormula(told);
        }
        if (kind < asks) {
            int cell = drawAsked();
            told.append("ask ").append(cell);
            return both(cells.ask(cell), model.ask(cell));
        }
        return kind < asks + 11 ? callChange(told) : callQuestion(told);
    }

    private static int[] both(int got, int want) {
        return new int[] {got, want};
    }

    private int[] callDefine(StringBuilder told) {
        int cell = draw(4) > 0 ? draw(3) : drawCell();
        int value = drawValue();
        told.append("define ").append(cell).append(' ').append(value);
        return both(cells.define(cell, value), model.define(cell, value));
    }

    /** A cell for a formula of this cell: mostly a lower one, so that not all comes to rings. */
    private int drawUsed(int cell) {
        return cell <= 0 || cell > 9 || draw(20) == 0 ? draw(10) : draw(cell);
    }

    /** A cell for a formula: seldom one of the lowest, which mostly stay values. */
    private int drawDefined() {
        int cell = drawCell();
        return cell >= 0 && cell < 3 && draw(8) > 0 ? 3 + draw(7) : cell;
    }

    /** A cell to ask or to forget: mostly one that is a formula. */
    private int drawAsked() {
        return draw(3) > 0 ? 3 + draw(7) : drawCell();
    }

    private int[] callFormula(StringBuilder told) {
        int cell = drawDefined();
        int kind = drawUpTo(4);
        int x = seldom() ? drawCell() : drawUsed(cell);
        int y = seldom() ? drawCell() : drawUsed(cell);
        int z = kind == 4 || seldom() ? drawUsed(cell) + (seldom() ? 10 : 0) : 0;
        told.append("formula ").append(cell).append(' ').append(kind).append(' ').append(x).append(' ').append(y)
            .append(' ').append(z);
        return both(cells.formula(cell, kind, x, y, z), model.formula(cell, kind, x, y, z));
    }

    private int[] callChange(StringBuilder told) {
        int kind = draw(14);
        if (kind < 3) {
            int cell = drawAsked();
            told.append("forget ").append(cell);
            return both(cells.forget(cell), model.forget(cell));
        }
        if (kind < 5) {
            int bound = draw(3) == 0 ? drawUpTo(10) : 6 + draw(5);
            told.append("bound ").append(bound);
            return both(cells.bound(bound), model.bound(bound));
        }
        if (kind < 9) {
            told.append("undo");
            return both(cells.undo(), model.undo());
        }
        if (kind < 11) {
            told.append("clearText");
            return both(cells.clearText(), model.clearText());
        }
        if (kind < 13) {
            told.append("play");
            return both(cells.play(), model.play());
        }
        pending = drawText();
        int character = seldom() ? new int[] {31, 127, 32, 126, -1}[draw(5)] : pending.charAt(0);
        told.append("type ").append(character);
        pending = pending.substring(1);
        return both(cells.type(character), model.type(character));
    }

    /** A definition, mostly well formed. */
    private String drawText() {
        StringBuilder text = new StringBuilder();
        int kind = draw(7);
        int cell = kind < 2 && draw(4) > 0 ? draw(3) : 3 + draw(7);
        text.append((char) ('a' + cell)).append('=');
        if (kind < 2) {
            text.append(draw(3) == 0 ? "-" : "").append(draw(5) == 0 ? "0" : "");
            text.append(draw(3) == 0 ? draw(200000) : draw(10));
        } else {
            text.append((char) ('a' + drawUsed(cell))).append("+-*^?".charAt(kind - 2))
                .append((char) ('a' + drawUsed(cell)));
            if (kind == 6) {
                text.append(':').append((char) ('a' + drawUsed(cell)));
            }
        }
        text.append(';');
        if (draw(12) == 0) {
            text.setCharAt(draw(text.length()), "a=1;+-*^?:kA 0/`@9".charAt(draw(18)));
        }
        if (draw(12) == 0) {
            text.setLength(1 + draw(text.length()));
        }
        return text.toString();
    }

    private int[] callQuestion(StringBuilder told) {
        int kind = draw(22);
        int cell = drawAsked();
        int what = drawUpTo(new int[] {4, 2, 6, 6, 4, 9, 9, 1, 9, 0, 0}[kind / 2]);
        told.append("question ").append(kind).append(' ').append(cell).append(' ').append(what);
        switch (kind / 2) {
            case 0:
                return both(cells.cellOf(cell, what), model.cellOf(cell, what));
            case 1:
                return both(cells.cost(cell, what), model.cost(cell, what));
            case 2:
            case 3:
                return both(cells.rememberedOf(cell, what), model.rememberedOf(cell, what));
            case 4:
                return both(cells.which(what), model.which(what));
            case 5:
            case 6:
                return both(cells.count(what), model.count(what));
            case 7:
                return both(cells.fault(what), model.fault(what));
            case 8:
                return callWould(told, cell);
            case 9:
                return both(cells.fresh(cell), model.fresh(cell));
            default:
                return kind == 20 ? both(cells.used(cell), model.used(cell))
                    : both(cells.usedBy(cell), model.usedBy(cell));
        }
    }

    private int[] callWould(StringBuilder told, int cell) {
        int value = drawValue();
        int asked = drawCell();
        told.append(" would ").append(value).append(' ').append(asked);
        return both(cells.would(cell, value, asked), model.would(cell, value, asked));
    }
}
