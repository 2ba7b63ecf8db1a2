import java.util.ArrayList;
import java.util.List;

/** A TEXT by the document's words: all TOKENS first, then the ITEMS. */
final class TextModel {
    private record Token(int place, char sign, int number) { }

    private static final char NUMBER = 'n', NOTHING = '?', END = 'e';

    final List<int[]> lines = new ArrayList<>();
    int fault = -1;
    private final List<Token> tokens = new ArrayList<>();
    private final int points;
    private int i;

    private static final class Stop extends Exception {
        private static final long serialVersionUID = 1;
        final int place;
        Stop(int place) { this.place = place; }
    }

    TextModel(List<Integer> bytes, int points) {
        this.points = points;
        cut(bytes);
        try {
            do {
                item();
            } while (skip(','));
            need(END);
        } catch (Stop stop) {
            fault = stop.place;
        }
    }

    private void cut(List<Integer> bytes) {
        int p = 0;
        while (p < bytes.size()) {
            int b = bytes.get(p);
            if (b == 32) {
                p++;
            } else if (b >= 48 && b <= 57) {
                StringBuilder digits = new StringBuilder();
                int from = p;
                while (p < bytes.size() && bytes.get(p) >= 48 && bytes.get(p) <= 57
                    && Integer.parseInt(digits.toString() + (char) (int) bytes.get(p)) <= 99) {
                    digits.append((char) (int) bytes.get(p++));
                }
                tokens.add(new Token(from, NUMBER, Integer.parseInt(digits.toString())));
            } else {
                tokens.add(new Token(p++, "-()[],".indexOf(b) >= 0 ? (char) b : NOTHING, -1));
            }
        }
        tokens.add(new Token(bytes.size(), END, -1));
    }

    private boolean skip(char sign) {
        boolean is = tokens.get(i).sign == sign;
        if (is) i++;
        return is;
    }

    private void need(char sign) throws Stop {
        if (!skip(sign)) throw new Stop(tokens.get(i).place);
    }

    private int point(List<Integer> unlike) throws Stop {
        Token t = tokens.get(i);
        if (t.sign != NUMBER || t.number >= points || unlike.contains(t.number)) throw new Stop(t.place);
        i++;
        return t.number;
    }

    private void item() throws Stop {
        if (skip('(')) {
            List<Integer> row = inside(3, ')');
            for (int k = 0; k < row.size(); k++) lines.add(new int[] {row.get(k), row.get((k + 1) % row.size())});
        } else if (skip('[')) {
            List<Integer> row = inside(2, ']');
            for (int a : row) for (int b : row) if (a < b) lines.add(new int[] {a, b});
        } else {
            int last = point(List.of());
            while (skip('-')) {
                int p = point(List.of(last));
                lines.add(new int[] {last, p});
                last = p;
            }
        }
    }

    private List<Integer> inside(int fewest, char close) throws Stop {
        List<Integer> row = new ArrayList<>();
        while (row.size() < fewest || !skip(close)) row.add(point(row));
        return row;
    }
}
