/** Long runs of drawn calls, each answered by the class and by the model. */
public final class ModelTest {
    private static final int RUNS = 6000;
    private static final int CALLS = 512;

    private long seed;
    private RememberedCells cells;
    private Model model;
    private int span;
    private int greatest;
    private String pending = "";

    private ModelTest() {
    }

    public static void main(String[] args) {
        Checks checks = new Checks();
        ModelTest test = new ModelTest();
        for (int run = 0; run < RUNS && !checks.hasFailed(); run++) {
            test.play(run, checks);
        }
        checks.end();
    }

    private void play(int run, Checks checks) {
        seed = run * 7919L + 17;
        cells = new RememberedCells();
        model = new Model();
        pending = "";
        span = 2 + draw(9);
        greatest = new int[] {1, 3, 9, 1000, 99999}[draw(5)];
        StringBuilder calls = new StringBuilder();
        for (int i = 0; i < CALLS && !checks.hasFailed(); i++) {
            int before = calls.length();
            calls.append("\n  ");
            int[] answers = call(calls);
            if (answers[0] != answers[1]) {
                checks.due("run " + run + ", call " + i + ", all calls:" + calls.substring(0, before)
                    + calls.substring(before), answers[0], answers[1]);
            }
        }
        checks.isTrue("run " + run + " agrees", !checks.hasFailed());
    }

    /** A number from 0 to limit - 1, always the same ones for the same run. */
    private int draw(int limit) {
        seed = seed * 6364136223846793005L + 1442695040888963407L;
        return (int) ((seed >>> 33) % limit);
    }

    private boolean seldom() {
        return draw(40) == 0;
    }

    private int drawCell() {
        return seldom() ? new int[] {-1, 10, Integer.MIN_VALUE, Integer.MAX_VALUE}[draw(4)] : draw(Math.min(span, 10));
    }

    private int drawValue() {
        if (seldom()) {
            return new int[] {100000, -100000, 99999, -99999, Integer.MIN_VALUE, Integer.MAX_VALUE}[draw(6)];
        }
        return draw(2 * greatest + 1) - greatest;
    }

    private int drawUpTo(int last) {
        return seldom() ? new int[] {-1, last + 1, Integer.MIN_VALUE, Integer.MAX_VALUE}[draw(4)] : draw(last + 1);
    }

    private int[] call(StringBuilder told) {
        if (!pending.isEmpty()) {
            int character = pending.charAt(0);
            pending = pending.substring(1);
            told.append("type ").append((char) character);
            return both(cells.type(character), model.type(character));
        }
        int kind = draw(100);
        if (kind < 12) {
            return callDefine(told);
        }
        if (kind < 26) {
            return callFormula(told);
        }
        if (kind < 50) {
            int cell = drawCell();
            told.append("ask ").append(cell);
            return both(cells.ask(cell), model.ask(cell));
        }
        return kind < 66 ? callChange(told) : callQuestion(told);
    }

    private static int[] both(int got, int want) {
        return new int[] {got, want};
    }

    private int[] callDefine(StringBuilder told) {
        int cell = drawCell();
        int value = drawValue();
        told.append("define ").append(cell).append(' ').append(value);
        return both(cells.define(cell, value), model.define(cell, value));
    }

    private int[] callFormula(StringBuilder told) {
        int cell = drawCell();
        int kind = drawUpTo(4);
        // Mostly of lower cells, so that not all comes to rings.
        int below = Math.max(1, draw(5) == 0 ? Math.min(span, 10) : Math.min(Math.max(cell, 1), 10));
        int x = seldom() ? drawCell() : draw(below);
        int y = seldom() ? drawCell() : draw(below);
        int z = kind == 4 || seldom() ? draw(below) + (seldom() ? 10 : 0) : 0;
        told.append("formula ").append(cell).append(' ').append(kind).append(' ').append(x).append(' ').append(y)
            .append(' ').append(z);
        return both(cells.formula(cell, kind, x, y, z), model.formula(cell, kind, x, y, z));
    }

    private int[] callChange(StringBuilder told) {
        int kind = draw(12);
        if (kind < 3) {
            int cell = drawCell();
            told.append("forget ").append(cell);
            return both(cells.forget(cell), model.forget(cell));
        }
        if (kind < 5) {
            int bound = draw(3) == 0 ? drawUpTo(10) : 6 + draw(5);
            told.append("bound ").append(bound);
            return both(cells.bound(bound), model.bound(bound));
        }
        if (kind < 7) {
            told.append("undo");
            return both(cells.undo(), model.undo());
        }
        if (kind == 7) {
            told.append("clearText");
            return both(cells.clearText(), model.clearText());
        }
        if (kind < 10) {
            told.append("play");
            return both(cells.play(), model.play());
        }
        pending = drawText();
        int character = seldom() ? new int[] {31, 127, 32, 126, -1}[draw(5)] : pending.charAt(0);
        told.append("type ").append(character);
        pending = pending.substring(1);
        return both(cells.type(character), model.type(character));
    }

    /** A definition, mostly well formed. */
    private String drawText() {
        StringBuilder text = new StringBuilder();
        text.append((char) ('a' + draw(10))).append('=');
        int kind = draw(7);
        if (kind < 2) {
            text.append(draw(3) == 0 ? "-" : "").append(draw(5) == 0 ? "0" : "");
            text.append(draw(3) == 0 ? draw(200000) : draw(10));
        } else {
            text.append((char) ('a' + draw(10))).append("+-*^?".charAt(kind - 2)).append((char) ('a' + draw(10)));
            if (kind == 6) {
                text.append(':').append((char) ('a' + draw(10)));
            }
        }
        text.append(';');
        if (draw(12) == 0) {
            text.setCharAt(draw(text.length()), "a=1;+-*^?:kA 0/`@9"
                .charAt(draw(18)));
        }
        if (draw(12) == 0) {
            text.setLength(1 + draw(text.length()));
        }
        return text.toString();
    }

    private int[] callQuestion(StringBuilder told) {
        int kind = draw(20);
        int cell = drawCell();
        int what = drawUpTo(new int[] {4, 2, 6, 6, 4, 9, 9, 1, 9, 0}[kind / 2]);
        told.append("question ").append(kind).append(' ').append(cell).append(' ').append(what);
        switch (kind / 2) {
            case 0:
                return both(cells.cellOf(cell, what), model.cellOf(cell, what));
            case 1:
                return both(cells.cost(cell, what), model.cost(cell, what));
            case 2:
            case 3:
                return both(cells.rememberedOf(cell, what), model.rememberedOf(cell, what));
            case 4:
                return both(cells.which(what), model.which(what));
            case 5:
            case 6:
                return both(cells.count(what), model.count(what));
            case 7:
                return both(cells.fault(what), model.fault(what));
            case 8:
                return callWould(told, cell);
            default:
                return kind == 18 ? callUsed(cell) : both(cells.fresh(cell), model.fresh(cell));
        }
    }

    private int[] callWould(StringBuilder told, int cell) {
        int value = drawValue();
        int asked = drawCell();
        told.append(" would ").append(value).append(' ').append(asked);
        return both(cells.would(cell, value, asked), model.would(cell, value, asked));
    }

    private int[] callUsed(int cell) {
        int got = cells.used(cell);
        int want = model.used(cell);
        return got != want ? both(got, want) : both(cells.usedBy(cell), model.usedBy(cell));
    }
}
