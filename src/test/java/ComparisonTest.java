/** Many runs of calls, the same for ever, on the program and on PlainRoom: both answer alike. */
public final class ComparisonTest {
    private static final int[] NAMES = {1, 11, 111, 12, 2, 1111, 112, 21};
    private static final int[] TIMES = {0, 50, 99, 100, 101, 300, 499, 500, 501, 998, 999};

    private final Check check = new Check();
    private long state;
    private int names;
    private int keys;
    private int mostLetters;
    private boolean isOfShortReach;
    private final int[] verdicts = new int[11];
    private SignetRoom room;
    private PlainRoom plain;

    public static void main(String[] args) {
        ComparisonTest test = new ComparisonTest();
        for (int run = 0; run < 600; run++) {
            test.run(run);
        }
        test.checkThatAllVerdictsCame();
        test.check.end();
    }

    private void run(int run) {
        state = run * 7919L + 17;
        check.topic("run " + run);
        boolean isDense = run % 3 == 0;
        names = isDense ? 1 + run % 2 : 3 + below(6);
        keys = isDense ? 1 + below(2) : 1 + below(3);
        mostLetters = isDense ? 3 + below(5) : 8 + below(13);
        isOfShortReach = run % 4 == 1;
        room = new SignetRoom();
        plain = new PlainRoom();
        // Some fifteen calls a step: an object is used for at most 512.
        int steps = 12 + below(20);
        for (int step = 0; step < steps; step++) {
            change();
            ask();
        }
        check.same("digest", room.digest(), plain.digest());
    }

    private void checkThatAllVerdictsCame() {
        check.topic("the runs themselves");
        for (int verdict = 0; verdict <= 10; verdict++) {
            boolean canBe = verdict < 8 || verdict == 10;
            System.out.println("verdict " + verdict + " came " + verdicts[verdict] + " times");
            check.same("verdict " + verdict + " came", verdicts[verdict] > 0, canBe);
        }
    }

    private int below(int bound) {
        state = state * 6364136223846793005L + 1442695040888963407L;
        return (int) ((state >>> 33) % bound);
    }

    private boolean oneIn(int bound) {
        return below(bound) == 0;
    }

    private int name() {
        return NAMES[below(names)];
    }

    private int time() {
        return oneIn(3) ? below(1000) : TIMES[below(TIMES.length)];
    }

    private int someLetter() {
        return below(plain.papers.size());
    }

    private void change() {
        int kind = below(12);
        if (plain.papers.isEmpty() || kind < 4 && plain.papers.size() < mostLetters) {
            addLetter();
        } else if (kind < 5) {
            int letter = someLetter();
            boolean isAnchor = oneIn(3);
            check.same("anchor", room.anchor(letter, isAnchor), plain.anchor(letter, isAnchor));
        } else if (kind < 7) {
            changeLetter(someLetter());
        } else if (kind < 8) {
            signWell(someLetter());
        } else if (kind < 9 && plain.recalls.size() < 8) {
            addList();
        } else if (kind < 11 && !plain.recalls.isEmpty()) {
            changeList(below(plain.recalls.size()));
        } else {
            boolean isStrict = oneIn(3);
            check.same("strict", room.strict(isStrict), plain.strict);
            plain.strict = isStrict;
        }
    }

    private void addLetter() {
        int subject = name();
        int issuer = name();
        int key = below(keys);
        int serial = below(4);
        int letter = plain.letter(subject, issuer, key, serial);
        check.same("letter", room.letter(subject, issuer, key, serial), letter);
        if (!oneIn(5)) {
            setMaster(letter, !oneIn(6), isOfShortReach ? below(2) : oneIn(3) ? below(6) : 4);
        }
        if (oneIn(3)) {
            changeLetter(letter);
        }
        if (oneIn(4) || letter == 0) {
            check.same("anchor", room.anchor(letter, true), plain.anchor(letter, true));
        }
        signWell(letter);
    }

    private void changeLetter(int letter) {
        int kind = below(3);
        if (kind == 0) {
            int from = oneIn(2) ? 0 : time();
            int to = Math.max(from, oneIn(2) ? 999 : time());
            check.same("times", room.times(letter, from, to), plain.set(letter, 4, from, to));
        } else if (kind == 1) {
            setMaster(letter, !oneIn(4), below(6));
        } else {
            int uses = oneIn(2) ? 15 : below(16);
            int bound = oneIn(2) ? 0 : name();
            check.same("good", room.good(letter, uses, bound), plain.set(letter, 8, uses, bound));
        }
        if (oneIn(2)) {
            signWell(letter);
        }
    }

    private void setMaster(int letter, boolean isMaster, int reach) {
        int due = plain.set(letter, 6, isMaster ? 1 : 0, reach);
        check.same("master", room.master(letter, isMaster, reach), due);
    }

    /** Signs mostly by the key of a letter that can back this one. */
    private void signWell(int letter) {
        int key = below(keys);
        for (int tries = 0; tries < 20; tries++) {
            PlainRoom.Paper other = plain.papers.get(someLetter());
            if (other.told[0] == plain.papers.get(letter).told[1]) {
                key = other.told[2];
            }
        }
        check.same("sign", room.sign(letter, key), plain.sign(letter, key));
    }

    private void addList() {
        int issuer = name();
        int at = time();
        int next = Math.max(at, time());
        check.same("list", room.list(issuer, at, next), plain.list(issuer, at, next));
        changeList(plain.recalls.size() - 1);
    }

    private void changeList(int list) {
        int serial = oneIn(20) ? 30 : below(4);
        int key = below(keys);
        check.same("call", room.call(list, serial), plain.call(list, serial));
        if (!oneIn(4)) {
            check.same("signList", room.signList(list, key), plain.signList(list, key));
        }
    }

    private void ask() {
        int t = time();
        int u = below(4);
        int letter = someLetter();
        check.same("many", room.many(3), plain.many(3));
        check.same("chains", room.chains(letter), plain.chainsOf(letter).size());
        int verdict = plain.verdict(letter, t, u);
        verdicts[verdict]++;
        check.same("verdict", room.verdict(letter, t, u), verdict);
        check.same("flawAt", room.flawAt(letter, t, u), plain.flawAt(letter, t, u));
        for (int place = -1; place <= 6; place++) {
            check.same("chain", room.chain(letter, t, u, place), plain.chain(letter, t, u, place));
        }
        if (oneIn(4)) {
            askOfAll(t, u);
        }
        if (oneIn(8)) {
            check.same("holdsTo", room.holdsTo(letter, t, u), plain.holdsTo(letter, t, u));
            check.same("otherwise", room.otherwise(letter, t, u), plain.otherwise(letter, t, u));
            check.same("digest", room.digest(), plain.digest());
        }
    }

    private void askOfAll(int t, int u) {
        int name = name();
        int key = below(keys + 1);
        int one = someLetter();
        int other = someLetter();
        check.same("backs", room.backs(one, other), plain.backs(one, other));
        check.same("isOf", room.isOf(name, key, t, u), plain.isOf(name, key, t, u));
        check.same("stolen", room.stolen(key, t, u), plain.stolen(key, t, u));
        long mean = Double.doubleToLongBits(room.meanChain(t, u));
        check.same("meanChain", mean, Double.doubleToLongBits(plain.meanChain(t, u)));
    }
}
