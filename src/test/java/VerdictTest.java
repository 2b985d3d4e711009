/** Promises 20 to 24: verdicts, the chain that decides, flaws, who can vouch, the mean length. */
public final class VerdictTest {
    private static final int LEAST = Integer.MIN_VALUE;
    private static final int MOST = Integer.MAX_VALUE;
    private static final int[] NO_TIMES = {-1, 1000, LEAST, MOST};
    private static final int[] NO_USES = {-1, 4, LEAST, MOST};

    private final Check check = new Check();

    public static void main(String[] args) {
        VerdictTest test = new VerdictTest();
        test.promise20Holds();
        test.promise20Alone();
        test.promise20AsBacker();
        test.promise20FirstFlaw();
        test.promise20CalledBack();
        test.promise20FullRoom();
        test.promise20ListOfPrintZero();
        test.promise20LatestList();
        test.promise20Strict();
        test.promise20Anchors();
        test.promise20SixtyChains();
        test.promise21Chain();
        test.promise21Order();
        test.promise22FlawAt();
        test.promise23IsOf();
        test.promise24MeanChain();
        test.wrongMoments();
        test.check.end();
    }

    /** The verdict on a letter and the place of its flaw. */
    private void decided(String what, SignetRoom room, int letter, int time, int use, int verdict, int place) {
        check.same(what + ": verdict", room.verdict(letter, time, use), verdict);
        check.same(what + ": flawAt", room.flawAt(letter, time, use), place);
    }

    private void promise20Holds() {
        check.topic("promise 20");
        SignetRoom room = Rooms.ladder();
        for (int letter = 0; letter < 4; letter++) {
            decided("letter " + letter, room, letter, 0, 0, 0, -1);
            decided("letter " + letter, room, letter, 999, 3, 0, -1);
        }
        room.anchor(0, false);
        decided("without an anchor", room, 3, 0, 0, 10, -1);
        room.anchor(0, true);
        room.sign(2, 2);
        decided("signed by another key", room, 3, 0, 0, 10, -1);
        decided("behind that", room, 1, 0, 0, 0, -1);
    }

    private void promise20Alone() {
        check.topic("promise 20, flaws 1 to 3");
        SignetRoom room = Rooms.ladder();
        room.times(1, 100, 200);
        room.sign(1, 0);
        decided("below FROM", room, 3, 99, 0, 1, 2);
        decided("at FROM", room, 3, 100, 0, 0, -1);
        decided("at TO", room, 3, 200, 0, 0, -1);
        decided("above TO", room, 3, 201, 0, 2, 2);
        decided("above TO, itself", room, 1, 201, 0, 2, 0);
        room.good(0, 10, 0);
        room.sign(0, 0);
        decided("use 0 of the anchor", room, 3, 150, 0, 3, 3);
        decided("use 1 of the anchor", room, 3, 150, 1, 0, -1);
        decided("use 2 of the anchor", room, 3, 150, 2, 3, 3);
        decided("use 3 of the anchor", room, 3, 150, 3, 0, -1);
        decided("use 2 of the anchor alone", room, 0, 150, 2, 3, 0);
    }

    private void promise20AsBacker() {
        check.topic("promise 20, flaws 4 to 6");
        SignetRoom room = Rooms.ladder();
        room.master(1, false, 5);
        room.sign(1, 0);
        decided("no master", room, 3, 0, 0, 4, 2);
        decided("no master, at the place 0", room, 1, 0, 0, 0, -1);
        room.master(1, true, 1);
        room.sign(1, 0);
        decided("reach 1 at the place 2", room, 3, 0, 0, 0, -1);
        room.master(1, true, 0);
        room.sign(1, 0);
        decided("reach 0 at the place 2", room, 3, 0, 0, 5, 2);
        decided("reach 0 at the place 1", room, 2, 0, 0, 0, -1);
        room.master(1, true, 5);
        room.good(1, 15, 111);
        room.sign(1, 0);
        decided("all under the bound", room, 3, 0, 0, 0, -1);
        decided("its own subject is free", room, 1, 0, 0, 0, -1);
        room.good(1, 15, 1111);
        room.sign(1, 0);
        decided("one at a smaller place is not", room, 3, 0, 0, 6, 2);
        decided("the one ahead is not", room, 2, 0, 0, 6, 1);
        room.good(1, 15, 2);
        room.sign(1, 0);
        decided("none is", room, 3, 0, 0, 6, 2);
    }

    /** A letter that has several flaws, which are mended one by one, the first one first. */
    private void promise20FirstFlaw() {
        check.topic("promise 20, the first flaw");
        SignetRoom room = Rooms.ladder();
        Rooms.addList(room, 1, 0, 999, 1, 0);
        room.times(1, 0, 10);
        room.master(1, false, 0);
        room.good(1, 14, 2);
        room.sign(1, 0);
        decided("2 ahead of 3", room, 3, 11, 0, 2, 2);
        decided("3 ahead of 4", room, 3, 10, 0, 3, 2);
        decided("4 ahead of 5", room, 3, 10, 1, 4, 2);
        room.master(1, true, 0);
        room.sign(1, 0);
        decided("5 ahead of 6", room, 3, 10, 1, 5, 2);
        room.master(1, true, 1);
        room.sign(1, 0);
        decided("6 ahead of 7", room, 3, 10, 1, 6, 2);
        room.good(1, 14, 0);
        room.sign(1, 0);
        decided("7", room, 3, 10, 1, 7, 2);
        room.times(1, 11, 11);
        room.sign(1, 0);
        decided("1 ahead of 3", room, 3, 10, 0, 1, 2);
        room.times(3, 0, 9);
        room.sign(3, 2);
        decided("the place 0 ahead of the place 2", room, 3, 10, 0, 2, 0);
    }

    private void promise20CalledBack() {
        check.topic("promise 20, flaw 7");
        SignetRoom room = Rooms.ladder();
        int list = Rooms.addList(room, 11, 100, 200, 2, 1);
        decided("below AT", room, 3, 99, 0, 0, -1);
        decided("at AT", room, 3, 100, 0, 7, 1);
        decided("above NEXT", room, 3, 900, 0, 7, 1);
        decided("itself", room, 2, 100, 0, 7, 0);
        decided("the letter behind", room, 1, 100, 0, 0, -1);
        room.call(list, 2);
        room.signList(list, 1);
        decided("not on the list", room, 3, 100, 0, 0, -1);
        room.call(list, 2);
        decided("with an old seal", room, 3, 100, 0, 0, -1);
        room.signList(list, 2);
        decided("by another key", room, 3, 100, 0, 0, -1);
        room.signList(list, 1);
        decided("signed again", room, 3, 100, 0, 7, 1);
        SignetRoom other = Rooms.ladder();
        Rooms.addList(other, 1, 100, 200, 2, 1);
        decided("of another issuer", other, 3, 100, 0, 0, -1);
    }

    /** Key 15 signs, the room has all its letters and lists, and the last ones decide. */
    private void promise20FullRoom() {
        check.topic("promise 20, a full room");
        SignetRoom room = new SignetRoom();
        for (int letter = 0; letter < 19; letter++) {
            Rooms.add(room, 1, 2, 15, 5, 15);
        }
        Rooms.add(room, 2, 2, 15, 5, 15);
        room.anchor(19, true);
        for (int list = 0; list < 7; list++) {
            Rooms.addList(room, 2, list, 999, -1, 15);
        }
        decided("not called back", room, 18, 500, 3, 0, -1);
        Rooms.addList(room, 2, 7, 999, 18, 15);
        decided("called back by the last list", room, 18, 500, 3, 7, 0);
        decided("another letter", room, 17, 500, 3, 0, -1);
        check.sameText("its chain", Rooms.chainText(room, 17, 500, 3), "17.19.");
        check.same("isOf 2", room.isOf(2, 15, 500, 3), true);
        check.same("isOf 3", room.isOf(3, 15, 500, 3), false);
        mean("18 of 2, 1 of 1", room, 500, 3, 37 / 19.0);
    }

    /** A list with the print 0 that nobody signed: its seal 0 is right by every key. */
    private void promise20ListOfPrintZero() {
        check.topic("promise 20, a list with the print 0");
        SignetRoom room = Rooms.ladder();
        int next = 0;
        while (next < 999 && Check.print(19, 11, 0, next, 1 << 2) != 0) {
            next++;
        }
        room.list(11, 0, next);
        room.call(0, 2);
        check.same("print", room.ofList(0, 5), 0);
        decided("on it", room, 2, 0, 0, 7, 0);
        room.call(0, 3);
        decided("with another print", room, 2, 0, 0, 0, -1);
    }

    private void promise20LatestList() {
        check.topic("promise 20, the latest list");
        SignetRoom room = Rooms.ladder();
        Rooms.addList(room, 1, 100, 100, -1, 0);
        Rooms.addList(room, 1, 50, 999, 1, 0);
        decided("at 50 the second one", room, 1, 50, 0, 7, 0);
        decided("at 100 the first one", room, 1, 100, 0, 0, -1);
        Rooms.addList(room, 1, 100, 999, 1, 0);
        decided("of two at 100 the greater number", room, 1, 100, 0, 7, 0);
        Rooms.addList(room, 1, 100, 999, 0, 0);
        decided("of three at 100 the greatest number", room, 1, 100, 0, 0, -1);
        Rooms.addList(room, 1, 0, 999, 1, 0);
        decided("an older one with a greater number", room, 1, 100, 0, 0, -1);
        Rooms.addList(room, 1, 300, 999, 1, 3);
        decided("a later one by another key", room, 1, 300, 0, 0, -1);
        Rooms.addList(room, 1, 0, 999, 1, 0);
        decided("at 0 the last one at 0", room, 1, 0, 0, 7, 0);
    }

    private void promise20Strict() {
        check.topic("promise 20, a strict room");
        SignetRoom room = Rooms.ladder();
        room.strict(true);
        decided("no list", room, 1, 100, 0, 7, 0);
        decided("the anchor", room, 0, 100, 0, 0, -1);
        int list = Rooms.addList(room, 1, 100, 200, 5, 0);
        decided("no list yet", room, 1, 99, 0, 7, 0);
        decided("at AT", room, 1, 100, 0, 0, -1);
        decided("at NEXT", room, 1, 200, 0, 0, -1);
        decided("above NEXT", room, 1, 201, 0, 7, 0);
        decided("one of two has no list", room, 2, 150, 0, 7, 0);
        Rooms.addList(room, 11, 0, 999, 5, 1);
        decided("both have one", room, 2, 150, 0, 0, -1);
        decided("the second one's list is old", room, 2, 201, 0, 7, 1);
        room.call(list, 1);
        room.signList(list, 0);
        decided("on the list", room, 2, 150, 0, 7, 1);
        room.strict(false);
        decided("not strict, not on its latest list", room, 2, 99, 0, 0, -1);
        decided("not strict, on it", room, 2, 201, 0, 7, 1);
    }

    private void promise20Anchors() {
        check.topic("promise 20, anchors");
        SignetRoom room = Rooms.ladder();
        room.strict(true);
        room.anchor(1, true);
        Rooms.addList(room, 1, 0, 999, 1, 0);
        decided("an anchor is never called back", room, 1, 100, 0, 0, -1);
        Rooms.addList(room, 11, 0, 999, -1, 1);
        decided("one behind it", room, 2, 100, 0, 0, -1);
        room.times(1, 0, 5);
        room.sign(1, 0);
        decided("it has its other flaws", room, 2, 100, 0, 2, 1);
        room.times(1, 0, 999);
        room.master(1, false, 0);
        room.sign(1, 0);
        decided("it must be a master", room, 2, 100, 0, 4, 1);
    }

    /** The chain that holds is the 60th one, or, with one anchor more, the 61st. */
    private void promise20SixtyChains() {
        check.topic("promise 20, 60 chains");
        SignetRoom room = new SignetRoom();
        for (int letter = 0; letter < 8; letter++) {
            Rooms.add(room, 1, 1, 0, Rooms.NO_MASTER, 0);
        }
        Rooms.add(room, 1, 4, 0, Rooms.NO_MASTER, 0);
        Rooms.add(room, 1, 3, 0, Rooms.NO_MASTER, 6);
        Rooms.add(room, 1, 2, 0, 5, 5);
        Rooms.add(room, 2, 9, 5, 5, 0);
        for (int letter = 12; letter < 15; letter++) {
            Rooms.add(room, 3, 9, 6, 5, 0);
        }
        for (int letter = 1; letter < 14; letter++) {
            room.anchor(letter, letter != 9 && letter != 10);
        }
        check.same("chains", room.chains(0), 60);
        decided("the 60th holds", room, 0, 0, 0, 0, -1);
        check.sameText("the 60th", Rooms.chainText(room, 0, 0, 0), "0.10.11.");
        room.anchor(14, true);
        check.same("chains", room.chains(0), 60);
        decided("the 61st would hold", room, 0, 0, 0, 4, 1);
        check.sameText("the first", Rooms.chainText(room, 0, 0, 0), "0.1.");
    }

    private void promise21Chain() {
        check.topic("promise 21");
        SignetRoom room = Rooms.ladder();
        check.sameText("of 3", Rooms.chainText(room, 3, 0, 0), "3.2.1.0.");
        check.sameText("of 0", Rooms.chainText(room, 0, 0, 0), "0.");
        for (int place : new int[] {-1, 4, 6, 60, LEAST, MOST}) {
            check.same("place " + place, room.chain(3, 0, 0, place), -1);
        }
        room.master(1, false, 0);
        room.sign(1, 0);
        check.sameText("if it does not hold", Rooms.chainText(room, 3, 0, 0), "3.2.1.0.");
        room.sign(1, 7);
        check.sameText("without a chain", Rooms.chainText(room, 3, 0, 0), "");
        check.sameText("6 long", Rooms.chainText(Rooms.longLadder(6), 0, 0, 0), "0.1.2.3.4.5.");
        for (int wrong : new int[] {-1, 4, LEAST, MOST}) {
            check.outside("letter " + wrong, () -> room.chain(wrong, 0, 0, 0));
            check.outside("letter " + wrong + ", wrong time", () -> room.chain(wrong, -1, 4, 0));
        }
    }

    private void promise21Order() {
        check.topic("promise 21, the order");
        SignetRoom room = Rooms.circle(4);
        room.anchor(0, true);
        room.anchor(2, true);
        String[] due = {"3.0.", "3.2.", "3.0.2.", "3.1.0.", "3.1.2.", "3.2.0."};
        check.sameText("the first that holds", Rooms.chainText(room, 3, 5, 0), due[0]);
        room.times(0, 6, 999);
        room.sign(0, 0);
        check.sameText("the second holds", Rooms.chainText(room, 3, 5, 0), due[1]);
        check.sameText("later the first one", Rooms.chainText(room, 3, 6, 0), due[0]);
        room.anchor(2, false);
        room.times(0, 0, 999);
        room.sign(0, 0);
        room.times(1, 6, 999);
        room.sign(1, 0);
        Rooms.add(room, 2, 9, 8, 5, 0);
        room.anchor(0, false);
        room.anchor(4, true);
        Rooms.add(room, 1, 2, 0, 5, 8);
        check.sameText("a shorter one ahead of smaller numbers", Rooms.chainText(room, 3, 5, 0), "3.5.4.");
        room.master(5, true, 0);
        room.sign(5, 8);
        room.anchor(2, true);
        room.master(2, false, 0);
        room.sign(2, 0);
        check.sameText("a longer one that holds", Rooms.chainText(room, 3, 5, 0), "3.5.4.");
        check.same("though the shorter one has a flaw", room.verdict(3, 5, 0), 0);
    }

    private void promise22FlawAt() {
        check.topic("promise 22");
        SignetRoom asked = Rooms.ladder();
        asked.times(2, 5, 5);
        asked.sign(2, 1);
        check.same("as the first question", asked.flawAt(3, 6, 0), 1);
        asked.sign(3, 0);
        check.same("after a change", asked.flawAt(3, 6, 0), -1);
        check.same("of another letter", asked.flawAt(2, 6, 0), 0);
        SignetRoom room = Rooms.ladder();
        Rooms.add(room, 1, 1, 0, 5, 0);
        room.anchor(4, true);
        room.times(0, 0, 9);
        room.sign(0, 0);
        check.sameText("the second chain holds", Rooms.chainText(room, 3, 10, 0), "3.2.1.4.");
        decided("the second chain holds", room, 3, 10, 0, 0, -1);
        room.good(4, 14, 0);
        room.sign(4, 0);
        decided("the first chain tells", room, 3, 10, 0, 2, 3);
        decided("the second one again", room, 3, 10, 1, 0, -1);
        decided("both hold", room, 3, 9, 1, 0, -1);
        room.times(0, 0, 8);
        decided("an anchor may have an old seal", room, 3, 9, 0, 2, 3);
        for (int wrong : new int[] {-1, 5, LEAST, MOST}) {
            check.outside("verdict of " + wrong, () -> room.verdict(wrong, 0, 0));
            check.outside("flawAt of " + wrong, () -> room.flawAt(wrong, 0, 0));
            check.outside("verdict of " + wrong + ", wrong time", () -> room.verdict(wrong, -1, 4));
            check.outside("flawAt of " + wrong + ", wrong time", () -> room.flawAt(wrong, -1, 4));
        }
    }

    private void promise23IsOf() {
        check.topic("promise 23");
        SignetRoom room = Rooms.ladder();
        check.same("1 has 0", room.isOf(1, 0, 0, 0), true);
        check.same("1111 has 3", room.isOf(1111, 3, 0, 0), true);
        check.same("1111 has 2", room.isOf(1111, 2, 0, 0), false);
        check.same("111 has 3", room.isOf(111, 3, 0, 0), false);
        check.same("9 has 3", room.isOf(9, 3, 0, 0), false);
        room.times(3, 5, 9);
        room.sign(3, 2);
        check.same("too early", room.isOf(1111, 3, 4, 0), false);
        check.same("in time", room.isOf(1111, 3, 5, 0), true);
        room.good(3, 1, 0);
        room.sign(3, 2);
        check.same("for another use", room.isOf(1111, 3, 5, 1), false);
        Rooms.add(room, 1111, 111, 3, Rooms.NO_MASTER, 2);
        check.same("a second letter", room.isOf(1111, 3, 4, 1), true);
        for (int wrong : new int[] {0, -1, 10, 101, 10000, LEAST, MOST}) {
            check.illegal("name " + wrong, () -> room.isOf(wrong, 0, 0, 0) ? 1 : 0);
        }
        for (int wrong : new int[] {-1, 16, LEAST, MOST}) {
            check.illegal("key " + wrong, () -> room.isOf(1, wrong, 0, 0) ? 1 : 0);
        }
    }

    private void mean(String what, SignetRoom room, int time, int use, double due) {
        double got = room.meanChain(time, use);
        check.sameText(what, Double.toString(got), Double.toString(due));
    }

    private void promise24MeanChain() {
        check.topic("promise 24");
        mean("of nothing", new SignetRoom(), 0, 0, 0.0);
        SignetRoom room = Rooms.ladder();
        mean("1, 2, 3, 4", room, 0, 0, 2.5);
        room.times(3, 5, 9);
        room.sign(3, 2);
        mean("1, 2, 3", room, 4, 0, 2.0);
        mean("all again", room, 5, 0, 2.5);
        room.good(1, 1, 0);
        room.sign(1, 0);
        mean("for another use", room, 5, 1, 1.0);
        Rooms.add(room, 11, 1, 9, Rooms.NO_MASTER, 0);
        Rooms.add(room, 2, 11, 0, Rooms.NO_MASTER, 1);
        mean("1, 2, 3, 4, 2, 3", room, 5, 0, 15 / 6.0);
        mean("1, 2, 3, 2, 3", room, 4, 0, 11 / 5.0);
        room.anchor(2, true);
        mean("1, 2, 1, 2, 2, 3", room, 5, 0, 11 / 6.0);
        room.anchor(0, false);
        room.anchor(2, false);
        mean("of none", room, 5, 0, 0.0);
    }

    private void wrongMoments() {
        check.topic("times and uses that are none");
        SignetRoom room = Rooms.ladder();
        for (int wrong : NO_TIMES) {
            check.illegal("verdict", () -> room.verdict(0, wrong, 0));
            check.illegal("chain", () -> room.chain(0, wrong, 0, 0));
            check.illegal("flawAt", () -> room.flawAt(0, wrong, 0));
            check.illegal("isOf", () -> room.isOf(1, 0, wrong, 0) ? 1 : 0);
            check.illegal("meanChain", () -> (long) room.meanChain(wrong, 0));
        }
        for (int wrong : NO_USES) {
            check.illegal("verdict", () -> room.verdict(0, 0, wrong));
            check.illegal("chain", () -> room.chain(0, 0, wrong, 0));
            check.illegal("flawAt", () -> room.flawAt(0, 0, wrong));
            check.illegal("isOf", () -> room.isOf(1, 0, 0, wrong) ? 1 : 0);
            check.illegal("meanChain", () -> (long) room.meanChain(0, wrong));
        }
    }
}
