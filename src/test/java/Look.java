/** Tells everything of an object that can be seen without a change. */
final class Look {
    private Look() {
    }

    static String at(RememberedCells cells) {
        StringBuilder seen = new StringBuilder();
        seen.append("counts");
        for (int what = 0; what <= 9; what++) {
            seen.append(' ').append(cells.count(what));
        }
        seen.append("; sets");
        for (int what = 0; what <= 4; what++) {
            seen.append(' ').append(cells.which(what));
        }
        seen.append("; fault ").append(cells.fault(0)).append(' ').append(cells.fault(1));
        for (int cell = 0; cell < 10; cell++) {
            appendCell(seen, cells, cell);
        }
        return seen.toString();
    }

    private static void appendCell(StringBuilder seen, RememberedCells cells, int cell) {
        seen.append("; ").append((char) ('a' + cell));
        for (int what = 0; what <= 4; what++) {
            seen.append(' ').append(told(cells.cellOf(cell, what)));
        }
        seen.append(" remembered");
        for (int what = 0; what <= 6; what++) {
            seen.append(' ').append(told(cells.rememberedOf(cell, what)));
        }
        seen.append(" cost");
        for (int what = 0; what <= 2; what++) {
            seen.append(' ').append(told(cells.cost(cell, what)));
        }
        seen.append(" fresh ").append(told(cells.fresh(cell)));
        seen.append(" used ").append(told(cells.used(cell)));
        seen.append(" by ").append(told(cells.usedBy(cell)));
    }

    private static String told(int answer) {
        switch (answer) {
            case RememberedCells.INVALID_ARGUMENT:
                return "invalid";
            case RememberedCells.NOT_POSSIBLE:
                return "impossible";
            case RememberedCells.LIMIT_REACHED:
                return "limit";
            case RememberedCells.NOT_FOUND:
                return "-";
            default:
                return Integer.toString(answer);
        }
    }
}
