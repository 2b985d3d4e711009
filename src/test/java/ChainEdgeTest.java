/** Term 3 and promises 18 to 22: who BACKS whom, what is a CHAIN, their order, and only the first 60. */
public final class ChainEdgeTest {
    private final Check check = new Check();

    public static void main(String[] args) {
        ChainEdgeTest test = new ChainEdgeTest();
        test.backsBySubject();
        test.backsBySeal();
        test.backsByZero();
        test.oneToSix();
        test.eachOnce();
        test.lastIsAnchor();
        test.othersCanBeAnchors();
        test.anchorAlone();
        test.shorterFirst();
        test.smallerNumberFirst();
        test.firstPlaceDecides();
        test.sixtyAtMost();
        test.sixtyOfEachLetter();
        test.theSixtiethHolds();
        test.theSixtyFirstDoesNotCount();
        test.flawOfTheFirstChain();
        test.check.end();
    }

    private void backsBySubject() {
        check.topic("term 3, the SUBJECT of b is the ISSUER of a");
        SignetRoom room = new SignetRoom();
        Rooms.add(room, 5, 12, 0, 5, 3);
        for (int subject : new int[] {12, 1, 2, 121, 21, 13, 5}) {
            int letter = Rooms.add(room, subject, 9, 3, 5, 3);
            check.same(subject + " backs", room.backs(letter, 0), subject == 12);
        }
        check.same("pairs", room.many(3), 1);
    }

    private void backsBySeal() {
        check.topic("term 3, the SEAL of a is RIGHT for its PRINT by the KEY of b");
        for (int key = 0; key <= 15; key++) {
            SignetRoom room = new SignetRoom();
            for (int letter = 0; letter <= 15; letter++) {
                room.letter(1, 2, letter, 0);
            }
            room.letter(2, 1, 3, 0);
            room.sign(16, key);
            for (int letter = 0; letter <= 15; letter++) {
                check.same("key " + letter + " of key " + key, room.backs(letter, 16), letter == key);
            }
        }
    }

    private void backsByZero() {
        check.topic("term 1, for the PRINT 0 the SEAL 0 is RIGHT by every KEY, and no other one");
        SignetRoom room = new SignetRoom();
        for (int letter = 0; letter <= 15; letter++) {
            room.letter(1, 2, letter, 0);
        }
        room.letter(2, 1, 3, 0);
        check.same("nobody signed it", room.chains(16), 0);
        room.sign(16, 3);
        Rooms.setPrintZero(room, 16);
        for (int letter = 0; letter <= 15; letter++) {
            check.same("another seal, key " + letter, room.backs(letter, 16), false);
        }
        room.sign(16, 3);
        for (int letter = 0; letter <= 15; letter++) {
            check.same("the seal 0, key " + letter, room.backs(letter, 16), true);
        }
    }

    private void oneToSix() {
        check.topic("term 3, a row of 1 to 6 LETTERS");
        for (int length = 1; length <= 8; length++) {
            SignetRoom room = Rooms.longLadder(length);
            int due = length <= 6 ? 1 : 0;
            check.same("chains, " + length + " long", room.chains(0), due);
            check.same("verdict, " + length + " long", room.verdict(0, 0, 0), length <= 6 ? 0 : 10);
            check.same("isOf, " + length + " long", room.isOf(1, 0, 0, 0), length <= 6);
            check.same("holdsTo, " + length + " long", room.holdsTo(0, 0, 0), length <= 6 ? 999 : -1);
            check.same("stolen, " + length + " long", room.stolen(0, 0, 0), due);
            double mean = length <= 6 ? (length + 1) / 2.0 : 3.5;
            check.sameNumber("meanChain, " + length + " long", room.meanChain(0, 0), mean);
            check.same("otherwise, " + length + " long", room.otherwise(length - 1, 0, 0), Math.min(length, 6));
        }
    }

    private void eachOnce() {
        check.topic("term 3, each once");
        SignetRoom one = Rooms.circle(1);
        check.same("it backs itself, no anchor", one.chains(0), 0);
        one.anchor(0, true);
        check.same("it backs itself", one.chains(0), 1);
        SignetRoom two = Rooms.circle(2);
        two.anchor(0, true);
        check.same("of the anchor", two.chains(0), 1);
        check.same("of the other one", two.chains(1), 1);
        two.anchor(1, true);
        check.same("of two anchors", two.chains(0), 2);
        SignetRoom five = Rooms.circle(5);
        five.anchor(4, true);
        check.same("of five", five.chains(0), 1 + 3 + 6 + 6);
        SignetRoom ring = new SignetRoom();
        Rooms.add(ring, 1, 2, 1, 5, 2);
        Rooms.add(ring, 2, 3, 2, 5, 3);
        Rooms.add(ring, 3, 1, 3, 5, 1);
        ring.anchor(1, true);
        check.same("of a ring, 0.1", ring.chains(0), 1);
        check.same("of a ring, 1", ring.chains(1), 1);
        check.same("of a ring, 2.0.1", ring.chains(2), 1);
    }

    private void lastIsAnchor() {
        check.topic("term 3, the last one is an ANCHOR");
        SignetRoom room = Rooms.longLadder(6);
        room.anchor(5, false);
        for (int letter = 0; letter < 6; letter++) {
            check.same("chains of " + letter, room.chains(letter), 0);
            check.same("verdict on " + letter, room.verdict(letter, 0, 0), 10);
            check.same("flawAt of " + letter, room.flawAt(letter, 0, 0), -1);
        }
        room.anchor(0, true);
        check.same("an anchor in front", room.chains(0), 1);
        check.same("does not help those behind", room.chains(1), 0);
    }

    private void othersCanBeAnchors() {
        check.topic("term 3, others can be, too");
        SignetRoom room = Rooms.longLadder(6);
        for (int letter = 4; letter >= 0; letter--) {
            room.anchor(letter, true);
            check.same("chains of 0", room.chains(0), 6 - letter);
        }
        for (int length = 1; length <= 6; length++) {
            check.same("the last place of the first that holds", room.chain(0, 0, 0, length - 1), length - 1);
            room.good(length - 1, 15, 9);
            room.sign(length - 1, length);
            room.anchor(length - 1, false);
        }
    }

    private void anchorAlone() {
        check.topic("term 3, a CHAIN of 1: its SEAL and whether it is a MASTER do not count, its FLAWS 1 to 3 do");
        SignetRoom room = new SignetRoom();
        room.letter(1, 2, 3, 4);
        room.anchor(0, true);
        check.same("chains", room.chains(0), 1);
        check.same("verdict", room.verdict(0, 0, 0), 0);
        room.good(0, 15, 9);
        check.same("verdict, its bound", room.verdict(0, 0, 0), 0);
        room.times(0, 5, 5);
        check.same("verdict, FROM", room.verdict(0, 4, 0), 1);
        check.same("verdict, TO", room.verdict(0, 6, 0), 2);
        room.good(0, 14, 9);
        check.same("verdict, USES", room.verdict(0, 5, 0), 3);
        check.same("verdict, another use", room.verdict(0, 5, 1), 0);
    }

    private void shorterFirst() {
        check.topic("term 3, the shorter ones first");
        SignetRoom room = new SignetRoom();
        Rooms.add(room, 1, 2, 1, 5, 2);
        Rooms.add(room, 2, 3, 2, 5, 3);
        Rooms.add(room, 3, 9, 3, 5, 9);
        Rooms.add(room, 2, 9, 2, 5, 9);
        room.anchor(2, true);
        check.sameText("the longer one alone", Rooms.chainText(room, 0, 0, 0), "0.1.2.");
        room.anchor(3, true);
        check.sameText("the shorter one has greater numbers", Rooms.chainText(room, 0, 0, 0), "0.3.");
        room.good(3, 14, 0);
        check.sameText("the longer one holds", Rooms.chainText(room, 0, 0, 0), "0.1.2.");
        room.good(2, 14, 0);
        check.sameText("none holds", Rooms.chainText(room, 0, 0, 0), "0.3.");
    }

    private void smallerNumberFirst() {
        check.topic("term 3, then those with the smaller number");
        SignetRoom room = Rooms.circle(20);
        for (int letter = 19; letter > 0; letter--) {
            room.anchor(letter, true);
            check.sameText("the first", Rooms.chainText(room, 0, 0, 0), "0." + letter + ".");
        }
        for (int letter = 1; letter < 19; letter++) {
            room.good(letter, 14, 0);
            check.sameText("the next", Rooms.chainText(room, 0, 0, 0), "0." + (letter + 1) + ".");
        }
        room.good(19, 14, 0);
        check.sameText("none holds", Rooms.chainText(room, 0, 0, 0), "0.1.");
    }

    /** Two chains of letter 0: 0.1.4 and 0.2.3. */
    private void firstPlaceDecides() {
        check.topic("term 3, at the first place where they are not the same");
        SignetRoom room = new SignetRoom();
        Rooms.add(room, 1, 2, 1, 5, 2);
        Rooms.add(room, 2, 4, 2, 5, 4);
        Rooms.add(room, 2, 3, 2, 5, 3);
        Rooms.add(room, 3, 9, 3, 5, 9);
        Rooms.add(room, 4, 9, 4, 5, 9);
        room.anchor(3, true);
        room.anchor(4, true);
        check.same("chains", room.chains(0), 2);
        check.sameText("both hold", Rooms.chainText(room, 0, 0, 0), "0.1.4.");
        room.good(4, 14, 0);
        check.sameText("the second holds", Rooms.chainText(room, 0, 0, 0), "0.2.3.");
        room.good(3, 14, 0);
        check.sameText("none holds", Rooms.chainText(room, 0, 0, 0), "0.1.4.");
    }

    /**
     * Letter 0 has so many chains of 2 (to anchors that are no masters), and then, by each of so
     * many masters, one of 3 to each of so many anchors.
     */
    private static SignetRoom fan(int direct, int masters, int anchors) {
        SignetRoom room = new SignetRoom();
        Rooms.add(room, 1, 2, 1, Rooms.NO_MASTER, 2);
        for (int count = 0; count < direct; count++) {
            room.anchor(Rooms.add(room, 2, 9, 2, Rooms.NO_MASTER, 9), true);
        }
        for (int count = 0; count < masters; count++) {
            Rooms.add(room, 2, 3, 2, 5, 3);
        }
        for (int count = 0; count < anchors; count++) {
            room.anchor(Rooms.add(room, 3, 9, 3, 5, 9), true);
        }
        return room;
    }

    private void sixtyAtMost() {
        check.topic("promise 19, how many CHAINS it has (60 at most)");
        check.same("none", fan(0, 0, 19).chains(0), 0);
        check.same("1", fan(0, 1, 1).chains(0), 1);
        check.same("19", fan(19, 0, 0).chains(0), 19);
        check.same("58", fan(2, 7, 8).chains(0), 58);
        check.same("59", fan(3, 7, 8).chains(0), 59);
        check.same("60", fan(4, 7, 8).chains(0), 60);
        check.same("60 of one length", fan(0, 6, 10).chains(0), 60);
        check.same("61", fan(1, 6, 10).chains(0), 60);
        check.same("62", fan(2, 6, 10).chains(0), 60);
        check.same("90", fan(0, 9, 10).chains(0), 60);
    }

    private void sixtyOfEachLetter() {
        check.topic("term 3, the first 60 of a LETTER");
        SignetRoom room = fan(0, 6, 10);
        int other = Rooms.add(room, 1, 2, 1, Rooms.NO_MASTER, 2);
        check.same("chains of the first", room.chains(0), 60);
        check.same("chains of the second", room.chains(other), 60);
        check.same("chains of a master", room.chains(1), 10);
        check.same("chains of the first again", room.chains(0), 60);
        SignetRoom all = Rooms.circle(20);
        for (int letter = 0; letter < 20; letter++) {
            all.anchor(letter, true);
        }
        for (int letter = 0; letter < 20; letter++) {
            check.same("chains of " + letter, all.chains(letter), 60);
        }
    }

    /** Of the letters behind letter 0 only the last master and the last anchor are good for use 0. */
    private static void leaveTheLastOne(SignetRoom room, int direct, int masters, int anchors) {
        for (int letter = direct + 1; letter < direct + masters + anchors; letter++) {
            if (letter != direct + masters) {
                room.good(letter, 14, 0);
                room.sign(letter, room.ofLetter(letter, 1));
            }
        }
    }

    private void theSixtiethHolds() {
        check.topic("term 3, the 60th CHAIN counts");
        SignetRoom room = fan(0, 6, 10);
        leaveTheLastOne(room, 0, 6, 10);
        check.same("chains", room.chains(0), 60);
        check.same("verdict", room.verdict(0, 0, 0), 0);
        check.same("flawAt", room.flawAt(0, 0, 0), -1);
        check.sameText("chain", Rooms.chainText(room, 0, 0, 0), "0.6.16.");
        check.same("isOf", room.isOf(1, 1, 0, 0), true);
        check.same("holdsTo", room.holdsTo(0, 0, 0), 999);
        check.sameNumber("meanChain", room.meanChain(0, 0), (3 + 2 + 1) / 3.0);
        check.same("stolen", room.stolen(1, 0, 0), 1);
        check.same("otherwise: 0.6.16, 6.16 and 16 hold no more", room.otherwise(16, 0, 0), 3);
    }

    private void theSixtyFirstDoesNotCount() {
        check.topic("term 3, only the first 60 count");
        SignetRoom room = fan(1, 6, 10);
        leaveTheLastOne(room, 1, 6, 10);
        check.same("chains", room.chains(0), 60);
        check.same("verdict: the direct anchor is no master", room.verdict(0, 0, 0), 4);
        check.same("flawAt", room.flawAt(0, 0, 0), 1);
        check.sameText("chain", Rooms.chainText(room, 0, 0, 0), "0.1.");
        check.same("isOf", room.isOf(1, 1, 0, 0), false);
        check.same("holdsTo", room.holdsTo(0, 0, 0), -1);
        check.sameNumber("meanChain of 1, 7 and 17", room.meanChain(0, 0), (1 + 2 + 1) / 3.0);
        check.same("stolen", room.stolen(1, 0, 0), 0);
        check.same("otherwise: 0 holds by the 60th then, 1 has no chain", room.otherwise(1, 0, 0), 2);
    }

    private void flawOfTheFirstChain() {
        check.topic("term 3, the FLAW in the first CHAIN, whatever others have");
        SignetRoom room = Rooms.longLadder(2);
        room.good(1, 14, 0);
        Rooms.add(room, 2, 9, 1, 5, 0);
        room.times(2, 5, 999);
        room.anchor(2, true);
        check.same("3 in the first, 1 in the second", room.verdict(0, 4, 0), 3);
        check.same("its place", room.flawAt(0, 4, 0), 1);
        check.same("0 in the second", room.verdict(0, 5, 0), 0);
        check.same("no place", room.flawAt(0, 5, 0), -1);
        room.anchor(1, false);
        check.same("1 in the one that is left", room.verdict(0, 4, 0), 1);
        room.anchor(2, false);
        check.same("10 if it has no chain", room.verdict(0, 4, 0), 10);
        check.same("no place", room.flawAt(0, 4, 0), -1);
    }
}
