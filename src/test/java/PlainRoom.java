import java.util.ArrayList;
import java.util.List;

/**
 * The document read once more, slowly and without the program's shortcuts: a second room to
 * compare answers with. It takes calls with arguments that are in their ranges only.
 */
final class PlainRoom {
    static final class Paper {
        // SUBJECT, ISSUER, KEY, SERIAL, FROM, TO, MASTER, REACH, USES, BOUND
        final int[] told = {0, 0, 0, 0, 0, 999, 0, 0, 15, 0};
        int seal;
        boolean anchor;

        int print() {
            int p = 17;
            for (int value : told) {
                p = (p * 31 + value) % 997;
            }
            return p;
        }
    }

    static final class Recall {
        int issuer;
        int at;
        int next;
        final boolean[] serials = new boolean[31];
        int seal;

        long set() {
            long sum = 0;
            for (int s = 0; s < 31; s++) {
                sum += serials[s] ? 1L << s : 0;
            }
            return sum;
        }

        int print() {
            int p = 19;
            p = (p * 31 + issuer) % 997;
            p = (p * 31 + at) % 997;
            p = (p * 31 + next) % 997;
            return (int) ((p * 31 + set() % 997) % 997);
        }
    }

    final List<Paper> papers = new ArrayList<>();
    final List<Recall> recalls = new ArrayList<>();
    boolean strict;
    private final List<List<List<Integer>>> known = new ArrayList<>();

    static int signs(int key, int d) {
        return (d * (2 * key + 3)) % 997;
    }

    static boolean under(int name, int other) {
        return other == 0 || Integer.toString(name).startsWith(Integer.toString(other));
    }

    /** To be called after every change: the chains that were found before are forgotten. */
    void changed() {
        known.clear();
    }

    int letter(int subject, int issuer, int key, int serial) {
        Paper paper = new Paper();
        paper.told[0] = subject;
        paper.told[1] = issuer;
        paper.told[2] = key;
        paper.told[3] = serial;
        papers.add(paper);
        changed();
        return papers.size() - 1;
    }

    int set(int letter, int place, int first, int second) {
        Paper paper = papers.get(letter);
        paper.told[place] = first;
        paper.told[place + 1] = second;
        changed();
        return paper.print();
    }

    int sign(int letter, int key) {
        Paper paper = papers.get(letter);
        paper.seal = signs(key, paper.print());
        changed();
        return paper.seal;
    }

    int anchor(int letter, boolean isAnchor) {
        papers.get(letter).anchor = isAnchor;
        changed();
        return anchors();
    }

    int list(int issuer, int at, int next) {
        Recall recall = new Recall();
        recall.issuer = issuer;
        recall.at = at;
        recall.next = next;
        recalls.add(recall);
        return recalls.size() - 1;
    }

    int call(int list, int serial) {
        Recall recall = recalls.get(list);
        recall.serials[serial] = !recall.serials[serial];
        return Long.bitCount(recall.set());
    }

    int signList(int list, int key) {
        Recall recall = recalls.get(list);
        recall.seal = signs(key, recall.print());
        return recall.seal;
    }

    int anchors() {
        int count = 0;
        for (Paper paper : papers) {
            count += paper.anchor ? 1 : 0;
        }
        return count;
    }

    boolean backs(int one, int other) {
        Paper behind = papers.get(one);
        Paper ahead = papers.get(other);
        return behind.told[0] == ahead.told[1] && ahead.seal == signs(behind.told[2], ahead.print());
    }

    int many(int what) {
        if (what == 0) {
            return papers.size();
        }
        if (what == 1) {
            return anchors();
        }
        if (what == 2) {
            return recalls.size();
        }
        int pairs = 0;
        for (int one = 0; one < papers.size(); one++) {
            for (int other = 0; other < papers.size(); other++) {
                pairs += backs(one, other) ? 1 : 0;
            }
        }
        return pairs;
    }

    int ofLetter(int letter, int what) {
        Paper paper = papers.get(letter);
        if (what < 10) {
            return paper.told[what];
        }
        return what == 10 ? paper.seal : what == 11 ? paper.print() : paper.anchor ? 1 : 0;
    }

    int ofList(int list, int what) {
        Recall recall = recalls.get(list);
        long[] row = {recall.issuer, recall.at, recall.next, recall.set(), recall.seal, recall.print()};
        return (int) row[what];
    }

    int signer(int seal, int d) {
        for (int key = 15; key >= 0; key--) {
            boolean smaller = false;
            for (int below = 0; below < key; below++) {
                smaller |= signs(below, d) == seal;
            }
            if (signs(key, d) == seal && !smaller) {
                return key;
            }
        }
        return -1;
    }

    /** All rows of a length are made from all rows of the length below, in their order. */
    List<List<Integer>> chainsOf(int letter) {
        if (known.isEmpty()) {
            for (int number = 0; number < papers.size(); number++) {
                known.add(null);
            }
        }
        if (known.get(letter) == null) {
            known.set(letter, findChains(letter));
        }
        return known.get(letter);
    }

    private List<List<Integer>> findChains(int letter) {
        List<List<Integer>> found = new ArrayList<>();
        List<List<Integer>> rows = List.of(List.of(letter));
        for (int length = 1; length <= 6; length++) {
            for (List<Integer> row : rows) {
                if (papers.get(row.get(length - 1)).anchor && found.size() < 60) {
                    found.add(row);
                }
            }
            rows = longer(rows);
        }
        return found;
    }

    private List<List<Integer>> longer(List<List<Integer>> rows) {
        List<List<Integer>> result = new ArrayList<>();
        for (List<Integer> row : rows) {
            for (int next = 0; next < papers.size(); next++) {
                if (!row.contains(next) && backs(next, row.get(row.size() - 1))) {
                    List<Integer> more = new ArrayList<>(row);
                    more.add(next);
                    result.add(more);
                }
            }
        }
        return result;
    }

    int flaw(List<Integer> chain, int i, int t, int u) {
        Paper paper = papers.get(chain.get(i));
        int[] told = paper.told;
        boolean unbound = false;
        for (int smaller = 0; smaller < i; smaller++) {
            unbound |= !under(papers.get(chain.get(smaller)).told[0], told[9]);
        }
        boolean[] flaws = {
            false, t < told[4], t > told[5], (told[8] & 1 << u) == 0, i > 0 && told[6] == 0,
            i > 0 && told[7] < i - 1, i > 0 && unbound, calledBack(chain, i, t)
        };
        for (int number = 1; number <= 7; number++) {
            if (flaws[number]) {
                return number;
            }
        }
        return 0;
    }

    private boolean calledBack(List<Integer> chain, int i, int t) {
        Paper paper = papers.get(chain.get(i));
        if (paper.anchor) {
            return false;
        }
        Paper behind = papers.get(chain.get(i + 1));
        Recall last = null;
        for (int at = t; at >= 0 && last == null; at--) {
            for (Recall recall : recalls) {
                boolean right = recall.seal == signs(behind.told[2], recall.print());
                last = recall.issuer == paper.told[1] && right && recall.at == at ? recall : last;
            }
        }
        if (last == null) {
            return strict;
        }
        return last.serials[paper.told[3]] || strict && t > last.next;
    }

    private int firstFlawed(List<Integer> chain, int t, int u) {
        for (int i = 0; i < chain.size(); i++) {
            if (flaw(chain, i, t, u) != 0) {
                return i;
            }
        }
        return -1;
    }

    /** The first chain that holds; null without one. */
    List<Integer> holding(int letter, int t, int u) {
        for (List<Integer> chain : chainsOf(letter)) {
            if (firstFlawed(chain, t, u) == -1) {
                return chain;
            }
        }
        return null;
    }

    int verdict(int letter, int t, int u) {
        if (chainsOf(letter).isEmpty()) {
            return 10;
        }
        if (holding(letter, t, u) != null) {
            return 0;
        }
        List<Integer> first = chainsOf(letter).get(0);
        return flaw(first, firstFlawed(first, t, u), t, u);
    }

    int flawAt(int letter, int t, int u) {
        int verdict = verdict(letter, t, u);
        return verdict == 0 || verdict == 10 ? -1 : firstFlawed(chainsOf(letter).get(0), t, u);
    }

    int chain(int letter, int t, int u, int place) {
        List<Integer> chain = holding(letter, t, u);
        if (chain == null) {
            chain = chainsOf(letter).isEmpty() ? List.of() : chainsOf(letter).get(0);
        }
        return place >= 0 && place < chain.size() ? chain.get(place) : -1;
    }

    boolean isOf(int name, int key, int t, int u) {
        boolean is = false;
        for (int number = 0; number < papers.size(); number++) {
            int[] told = papers.get(number).told;
            is |= told[0] == name && told[2] == key && verdict(number, t, u) == 0;
        }
        return is;
    }

    double meanChain(int t, int u) {
        double sum = 0;
        int count = 0;
        for (int number = 0; number < papers.size(); number++) {
            if (verdict(number, t, u) == 0) {
                sum += holding(number, t, u).size();
                count++;
            }
        }
        return count == 0 ? 0 : sum / count;
    }

    int holdsTo(int letter, int t, int u) {
        int last = -1;
        for (int time = t; time <= 999 && verdict(letter, time, u) == 0; time++) {
            last = time;
        }
        return last;
    }

    int otherwise(int letter, int t, int u) {
        List<Integer> before = verdicts(t, u);
        boolean was = papers.get(letter).anchor;
        anchor(letter, !was);
        List<Integer> after = verdicts(t, u);
        anchor(letter, was);
        int count = 0;
        for (int number = 0; number < before.size(); number++) {
            count += before.get(number).equals(after.get(number)) ? 0 : 1;
        }
        return count;
    }

    private List<Integer> verdicts(int t, int u) {
        List<Integer> row = new ArrayList<>();
        for (int number = 0; number < papers.size(); number++) {
            row.add(verdict(number, t, u));
        }
        return row;
    }

    int stolen(int key, int t, int u) {
        int count = 0;
        for (int number = 0; number < papers.size(); number++) {
            List<Integer> chain = holding(number, t, u);
            boolean has = false;
            for (int i = 0; chain != null && i < chain.size(); i++) {
                has |= papers.get(chain.get(i)).told[2] == key;
            }
            count += has ? 1 : 0;
        }
        return count;
    }

    long digest() {
        List<Long> row = new ArrayList<>();
        for (int what = 0; what < 4; what++) {
            row.add((long) many(what));
        }
        for (int number = 0; number < papers.size(); number++) {
            for (int what = 0; what < 13; what++) {
                row.add((long) ofLetter(number, what));
            }
            row.add((long) chainsOf(number).size());
            int[][] moments = {{100, 0}, {100, 2}, {500, 0}, {500, 2}};
            for (int[] moment : moments) {
                row.add((long) verdict(number, moment[0], moment[1]));
                row.add((long) flawAt(number, moment[0], moment[1]));
            }
        }
        for (int number = 0; number < recalls.size(); number++) {
            for (int what = 0; what < 6; what++) {
                row.add((long) ofList(number, what));
            }
        }
        long d = 58102;
        for (long value : row) {
            d = d * 31 + value;
        }
        return d;
    }
}
