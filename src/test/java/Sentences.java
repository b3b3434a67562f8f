import java.io.IOException;
import java.nio.file.Files;
import java.nio.file.Path;
import java.util.function.Supplier;
import java.util.function.ToIntBiFunction;
import java.util.function.ToIntFunction;

/** Checks, each told under the sentence of the document to which it belongs. */
final class Sentences {
    private static final Path DOCUMENT = Path.of("../shared/DOC.md");

    private final Checks checks = new Checks();
    /** Empty if the document is not beside the checkout: then the quotes are not compared with it. */
    private final String document;
    private String section = "";
    private String sentence = "";

    Sentences() throws IOException {
        document = Files.exists(DOCUMENT) ? Files.readString(DOCUMENT) : "";
        if (document.isEmpty()) {
            System.out.println("no " + DOCUMENT + ", so the quotes are not compared with it");
        }
    }

    /** Says in which section of the document the next sentences stand, by the beginning of its heading. */
    void in(String heading) {
        int start = document.indexOf("\n## " + heading);
        int end = start < 0 ? -1 : document.indexOf("\n## ", start + 1);
        section = start < 0 ? "" : document.substring(start, end < 0 ? document.length() : end);
        if (!document.isEmpty()) {
            checks.isTrue("the document has the section " + heading, start >= 0);
        }
    }

    /** Says to which sentence, or part of one, the next checks belong. */
    void that(String words) {
        sentence = words;
        if (!document.isEmpty()) {
            checks.isTrue("the document says there: " + words, section.contains(words));
        }
    }

    void due(String call, long got, long want) {
        checks.due("\"" + sentence + "\": " + call, got, want);
    }

    void due(String call, String got, String want) {
        checks.due("\"" + sentence + "\": " + call, got, want);
    }

    void end() {
        checks.end();
    }

    /** Checks what a cell gives, in all ways in which it is told: 2000000000 stands for "too great". */
    void gives(String cells, RememberedCells x, int cell, int answer) {
        boolean great = answer == 2000000000;
        int afresh = great ? RememberedCells.LIMIT_REACHED : answer;
        due(cells + ", fresh(" + cell + ")", x.fresh(cell), afresh);
        due(cells + ", which(4) >> " + cell, x.which(4) >> cell & 1, great ? 1 : 0);
        due(cells + ", ask(" + cell + ")", x.ask(cell), answer);
        due(cells + ", rememberedOf(" + cell + ", 0)", x.rememberedOf(cell, 0), answer);
    }

    /** Checks how many formulas were worked out, kept and taken by asking a cell, and that cost() tells it ahead. */
    void work(String call, RememberedCells x, int cell, int worked, int kept, int taken) {
        int[] want = {worked, kept, taken};
        int[] before = {x.count(2), x.count(3), x.count(4)};
        for (int what = 0; what <= 2; what++) {
            due(call + ", cost(" + cell + ", " + what + ")", x.cost(cell, what), want[what]);
        }
        x.ask(cell);
        for (int what = 0; what <= 2; what++) {
            due(call + ", count(" + (what + 2) + ")", x.count(what + 2) - before[what], want[what]);
        }
    }

    /** Checks an argument's range: no error within, and beyond it a refused call on an object that has everything. */
    void range(String call, int least, int greatest, ToIntBiFunction<RememberedCells, Integer> asked) {
        for (int good : new int[] {least, greatest}) {
            due(call + " of " + good + " is out of range",
                asked.applyAsInt(Scenes.rich(), good) == RememberedCells.INVALID_ARGUMENT ? 1 : 0, 0);
        }
        for (int bad : new int[] {least - 1, greatest + 1, Integer.MIN_VALUE, Integer.MAX_VALUE}) {
            refused(call + " of " + bad, Scenes::rich, x -> asked.applyAsInt(x, bad),
                RememberedCells.INVALID_ARGUMENT);
        }
    }

    /** Checks a call that is to return an error: its answer, and that nothing changed by it, history included. */
    void refused(String call, Supplier<RememberedCells> made, ToIntFunction<RememberedCells> asked, int want) {
        RememberedCells called = made.get();
        due(call, asked.applyAsInt(called), want);
        unchanged(call, called, made.get());
    }

    /** Checks that an object is as another one, history included. */
    void unchanged(String call, RememberedCells called, RememberedCells other) {
        due(call + ", the state behind it,", Look.at(called), Look.at(other));
        int undone = 0;
        while (undone < 4 && other.undo() >= 0) {
            undone++;
            called.undo();
        }
        due(call + ", the oldest state behind it,", Look.at(called), Look.at(other));
    }
}
