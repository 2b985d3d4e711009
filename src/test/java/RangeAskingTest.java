/** Promises 12 to 27: the smallest and the largest argument that is allowed, with what is due. */
public final class RangeAskingTest {
    private final Check check = new Check();

    public static void main(String[] args) {
        RangeAskingTest test = new RangeAskingTest();
        test.manyOfEachKind();
        test.pairsWithThemselves();
        test.pairsThatBackEachOther();
        test.ofFirstAndLastLetter();
        test.ofFirstAndLastList();
        test.signedEveryNumber();
        test.signerSmallestKey();
        test.signerOfEverySeal();
        test.signerOfZero();
        test.backsFirstAndLast();
        test.timesZeroAndLast();
        test.usesZeroAndLast();
        test.chainPlaces();
        test.isOfFirstAndLast();
        test.isOfNeedsBoth();
        test.meanOfNone();
        test.meanNotCut();
        test.meanOfFirstChainsThatHold();
        test.holdsToLastTime();
        test.holdsToBreak();
        test.holdsToNone();
        test.otherwiseItself();
        test.otherwiseAll();
        test.otherwiseNone();
        test.otherwiseOtherFlaw();
        test.stolenItself();
        test.stolenAnchor();
        test.stolenNoneAndAll();
        test.stolenFirstChainThatHolds();
        test.check.end();
    }

    private void manyOfEachKind() {
        check.topic("promise 12, what 0 to 3, none and all");
        SignetRoom room = new SignetRoom();
        for (int what = 0; what <= 3; what++) {
            check.same("many(" + what + ") of nothing", room.many(what), 0);
        }
        SignetRoom full = Rooms.circle(20);
        for (int letter = 0; letter < 20; letter++) {
            full.anchor(letter, true);
        }
        for (int list = 0; list < 8; list++) {
            full.list(1, 0, 0);
        }
        int[] due = {20, 20, 8, 400};
        for (int what = 0; what <= 3; what++) {
            check.same("many(" + what + ") of all", full.many(what), due[what]);
        }
    }

    private void pairsWithThemselves() {
        check.topic("promise 12, also itself");
        SignetRoom room = Rooms.circle(1);
        check.same("pairs", room.many(3), 1);
        room.sign(0, 1);
        check.same("pairs, signed by another key", room.many(3), 0);
    }

    private void pairsThatBackEachOther() {
        check.topic("promise 12, two that BACK each other are two");
        SignetRoom room = new SignetRoom();
        Rooms.add(room, 1, 2, 1, 0, 2);
        Rooms.add(room, 2, 1, 2, 0, 1);
        check.same("pairs", room.many(3), 2);
        check.same("0 backs 1", room.backs(0, 1), true);
        check.same("1 backs 0", room.backs(1, 0), true);
        check.same("0 backs 0", room.backs(0, 0), false);
    }

    private void ofFirstAndLastLetter() {
        check.topic("promise 13, what 0 to 12 of the first and the last LETTER");
        SignetRoom room = Rooms.circle(20);
        room.anchor(19, true);
        int print = Check.print(17, 1, 1, 0, 19, 0, 999, 1, 5, 15, 0);
        int[] last = {1, 1, 0, 19, 0, 999, 1, 5, 15, 0, print * 3 % 997, print, 1};
        print = Check.print(17, 1, 1, 0, 0, 0, 999, 1, 5, 15, 0);
        int[] first = {1, 1, 0, 0, 0, 999, 1, 5, 15, 0, print * 3 % 997, print, 0};
        for (int what = 0; what <= 12; what++) {
            check.same("ofLetter(0, " + what + ")", room.ofLetter(0, what), first[what]);
            check.same("ofLetter(19, " + what + ")", room.ofLetter(19, what), last[what]);
        }
    }

    private void ofFirstAndLastList() {
        check.topic("promise 14, what 0 to 5 of the first and the last LIST");
        SignetRoom room = new SignetRoom();
        for (int list = 0; list < 8; list++) {
            Rooms.addList(room, 1 + list, 2 * list, 3 * list, list, list);
        }
        int print = Check.print(19, 8, 14, 21, 1 << 7);
        int[] last = {8, 14, 21, 1 << 7, print * 17 % 997, print};
        print = Check.print(19, 1, 0, 0, 1);
        int[] first = {1, 0, 0, 1, print * 3 % 997, print};
        for (int what = 0; what <= 5; what++) {
            check.same("ofList(0, " + what + ")", room.ofList(0, what), first[what]);
            check.same("ofList(7, " + what + ")", room.ofList(7, what), last[what]);
        }
    }

    private void signedEveryNumber() {
        check.topic("promise 15, every KEY and every number, 0 to 996");
        for (int key = 0; key <= 15; key++) {
            SignetRoom room = new SignetRoom();
            for (int d = 0; d <= 996; d++) {
                room = d % 500 == 0 ? new SignetRoom() : room;
                check.same("signed(" + key + ", " + d + ")", room.signed(key, d), (long) d * (2 * key + 3) % 997);
            }
        }
    }

    private void signerSmallestKey() {
        check.topic("promise 16, the KEY of what it signs, for every number");
        for (int d = 1; d <= 996; d++) {
            SignetRoom room = new SignetRoom();
            for (int key = 0; key <= 15; key++) {
                check.same("signer, number " + d, room.signer(d * (2 * key + 3) % 997, d), key);
            }
        }
    }

    private void signerOfEverySeal() {
        check.topic("promise 16, NONE without one");
        for (int d : new int[] {1, 2, 498, 996}) {
            int found = 0;
            SignetRoom room = new SignetRoom();
            for (int seal = 0; seal <= 996; seal++) {
                room = seal % 500 == 0 ? new SignetRoom() : room;
                found += room.signer(seal, d) == -1 ? 0 : 1;
            }
            check.same("seals that are right for " + d, found, 16);
        }
    }

    private void signerOfZero() {
        check.topic("promise 16, the smallest KEY of several");
        SignetRoom room = new SignetRoom();
        check.same("signer(0, 0)", room.signer(0, 0), 0);
        check.same("signer(1, 0)", room.signer(1, 0), -1);
        check.same("signer(996, 0)", room.signer(996, 0), -1);
        check.same("signer(0, 1)", room.signer(0, 1), -1);
        check.same("signer(0, 996)", room.signer(0, 996), -1);
    }

    private void backsFirstAndLast() {
        check.topic("promise 18, the first and the last LETTER");
        SignetRoom room = new SignetRoom();
        Rooms.add(room, 1, 2, 1, 5, 2);
        for (int letter = 1; letter < 19; letter++) {
            Rooms.add(room, 5, 6, 7, 5, 8);
        }
        Rooms.add(room, 2, 1, 2, 5, 1);
        check.same("19 backs 0", room.backs(19, 0), true);
        check.same("0 backs 19", room.backs(0, 19), true);
        check.same("0 backs 0", room.backs(0, 0), false);
        check.same("19 backs 19", room.backs(19, 19), false);
        check.same("18 backs 19", room.backs(18, 19), false);
        check.same("pairs", room.many(3), 2);
    }

    /** Two anchors: one is good at the time 0 alone, the other one at 999 alone. */
    private void timesZeroAndLast() {
        check.topic("promises 20 to 27, the times 0 and 999");
        SignetRoom room = Rooms.circle(2);
        room.anchor(0, true);
        room.anchor(1, true);
        room.times(0, 0, 0);
        room.times(1, 999, 999);
        verdicts(room, 0, 0, new int[] {0, 1});
        verdicts(room, 1, 0, new int[] {2, 1});
        verdicts(room, 998, 0, new int[] {2, 1});
        verdicts(room, 999, 0, new int[] {2, 0});
        check.same("holdsTo(0, 0, 0)", room.holdsTo(0, 0, 0), 0);
        check.same("holdsTo(1, 999, 0)", room.holdsTo(1, 999, 0), 999);
        check.same("otherwise(0, 0, 0)", room.otherwise(0, 0, 0), 1);
        check.same("otherwise(1, 999, 0)", room.otherwise(1, 999, 0), 1);
    }

    /** Two anchors: one is good for the use 0 alone, the other one for 3 alone. */
    private void usesZeroAndLast() {
        check.topic("promises 20 to 27, the uses 0 to 3");
        SignetRoom room = Rooms.circle(2);
        room.anchor(0, true);
        room.anchor(1, true);
        room.good(0, 1, 0);
        room.good(1, 8, 0);
        verdicts(room, 0, 0, new int[] {0, 3});
        verdicts(room, 0, 1, new int[] {3, 3});
        verdicts(room, 0, 2, new int[] {3, 3});
        verdicts(room, 0, 3, new int[] {3, 0});
        check.same("holdsTo(0, 0, 0)", room.holdsTo(0, 0, 0), 999);
        check.same("holdsTo(1, 0, 3)", room.holdsTo(1, 0, 3), 999);
        check.same("holdsTo(0, 0, 3)", room.holdsTo(0, 0, 3), -1);
        check.same("otherwise(0, 0, 0)", room.otherwise(0, 0, 0), 1);
        check.same("otherwise(1, 0, 3)", room.otherwise(1, 0, 3), 1);
    }

    /** Asks of letters that are anchors with the key 0 and the subject 1, whose chain is themselves. */
    private void verdicts(SignetRoom room, int time, int use, int[] due) {
        int holders = 0;
        for (int letter = 0; letter < due.length; letter++) {
            String at = " of " + letter + " at " + time + " for " + use;
            holders += due[letter] == 0 ? 1 : 0;
            check.same("verdict" + at, room.verdict(letter, time, use), due[letter]);
            check.same("flawAt" + at, room.flawAt(letter, time, use), due[letter] == 0 ? -1 : 0);
            check.same("chain" + at, room.chain(letter, time, use, 0), letter);
        }
        String at = " at " + time + " for " + use;
        check.same("isOf" + at, room.isOf(1, 0, time, use), holders > 0);
        check.sameNumber("meanChain" + at, room.meanChain(time, use), holders > 0 ? 1 : 0);
        check.same("stolen" + at, room.stolen(0, time, use), holders);
    }

    private void chainPlaces() {
        check.topic("promise 21, NONE if it is not so long, there is none, or place is below 0");
        for (int length = 1; length <= 6; length++) {
            SignetRoom room = Rooms.longLadder(length);
            for (int place = 0; place < length; place++) {
                check.same("place " + place, room.chain(0, 0, 0, place), place);
            }
            for (int place : new int[] {-1, length, length + 1, 6, 20, Integer.MIN_VALUE, Integer.MAX_VALUE}) {
                check.same("place " + place + " of " + length, room.chain(0, 0, 0, place), -1);
            }
            room.good(length - 1, 0, 0);
            check.same("none holds, the last place", room.chain(0, 0, 0, length - 1), length - 1);
            check.same("none holds, the next place", room.chain(0, 0, 0, length), -1);
            room.anchor(length - 1, false);
            check.same("without a chain, the place 0", room.chain(0, 0, 0, 0), -1);
            check.same("without a chain, the place -1", room.chain(0, 0, 0, -1), -1);
        }
    }

    private void isOfFirstAndLast() {
        check.topic("promise 23, the first and the last NAME and KEY");
        SignetRoom room = new SignetRoom();
        room.letter(1, 1, 0, 0);
        room.letter(9999, 1, 15, 0);
        room.anchor(0, true);
        room.anchor(1, true);
        check.same("1 has 0", room.isOf(1, 0, 0, 0), true);
        check.same("1 has 1", room.isOf(1, 1, 0, 0), false);
        check.same("1 has 15", room.isOf(1, 15, 0, 0), false);
        check.same("9999 has 15", room.isOf(9999, 15, 0, 0), true);
        check.same("9999 has 14", room.isOf(9999, 14, 0, 0), false);
        check.same("999 has 15", room.isOf(999, 15, 0, 0), false);
        check.same("9998 has 15", room.isOf(9998, 15, 0, 0), false);
    }

    private void isOfNeedsBoth() {
        check.topic("promise 23, a LETTER with that SUBJECT and that KEY");
        SignetRoom room = new SignetRoom();
        room.letter(2, 1, 3, 0);
        room.letter(4, 1, 5, 0);
        room.letter(2, 1, 5, 0);
        room.anchor(0, true);
        room.anchor(1, true);
        check.same("the subject of one, the key of another", room.isOf(4, 3, 0, 0), false);
        check.same("a letter that has no chain", room.isOf(2, 5, 0, 0), false);
        room.anchor(2, true);
        check.same("the last letter", room.isOf(2, 5, 0, 0), true);
        check.same("an issuer is no subject", room.isOf(1, 3, 0, 0), false);
    }

    private void meanOfNone() {
        check.topic("promise 24, 0 without any");
        check.sameNumber("no letter", new SignetRoom().meanChain(0, 0), 0);
        check.sameNumber("no chain", Rooms.circle(20).meanChain(0, 0), 0);
        SignetRoom room = Rooms.circle(20);
        room.anchor(0, true);
        room.good(0, 14, 0);
        check.sameNumber("none that holds", room.meanChain(0, 0), 0);
    }

    private void meanNotCut() {
        check.topic("promise 24, the mean, not cut");
        check.sameNumber("1, 2", Rooms.longLadder(2).meanChain(0, 0), 1.5);
        SignetRoom third = Rooms.circle(3);
        third.anchor(0, true);
        check.sameNumber("1, 2, 2", third.meanChain(0, 0), 5 / 3.0);
        third.anchor(1, true);
        check.sameNumber("1, 1, 2", third.meanChain(0, 0), 4 / 3.0);
        check.sameNumber("1 to 6", Rooms.longLadder(6).meanChain(0, 0), 3.5);
        SignetRoom full = Rooms.circle(20);
        full.anchor(19, true);
        check.sameNumber("1 and 19 times 2", full.meanChain(0, 0), 39 / 20.0);
    }

    private void meanOfFirstChainsThatHold() {
        check.topic("promise 24, of the first CHAINS that HOLD");
        SignetRoom room = new SignetRoom();
        Rooms.add(room, 1, 2, 1, 5, 2);
        Rooms.add(room, 2, 3, 2, 5, 3);
        Rooms.add(room, 2, 3, 2, 5, 3);
        Rooms.add(room, 3, 9, 3, 5, 0);
        room.anchor(2, true);
        room.anchor(3, true);
        check.sameNumber("0.2, 1.3, 2, 3", room.meanChain(0, 0), 6 / 4.0);
        room.times(2, 1, 999);
        room.sign(2, 3);
        check.sameNumber("0.1.3, 1.3, 3", room.meanChain(0, 0), 6 / 3.0);
    }

    private void holdsToLastTime() {
        check.topic("promise 25, the last time, 999 at most");
        for (int to : new int[] {0, 1, 500, 997, 998, 999}) {
            SignetRoom room = Rooms.circle(1);
            room.anchor(0, true);
            room.times(0, 0, to);
            check.same("from 0 to " + to, room.holdsTo(0, 0, 0), to);
            check.same("at " + to, room.holdsTo(0, to, 0), to);
            check.same("behind " + to, room.holdsTo(0, Math.min(to + 1, 999), 0), to == 999 ? 999 : -1);
        }
    }

    private void holdsToBreak() {
        check.topic("promise 25, without a break");
        SignetRoom room = Rooms.longLadder(2);
        room.times(1, 0, 499);
        Rooms.add(room, 2, 9, 1, 5, 0);
        room.anchor(2, true);
        room.times(2, 500, 999);
        check.same("no break", room.holdsTo(0, 0, 0), 999);
        room.times(2, 501, 999);
        check.same("a break of one time", room.holdsTo(0, 0, 0), 499);
        check.same("in the break", room.holdsTo(0, 500, 0), -1);
        check.same("behind the break", room.holdsTo(0, 501, 0), 999);
    }

    private void holdsToNone() {
        check.topic("promise 25, NONE if it is not 0 at that");
        SignetRoom room = Rooms.longLadder(2);
        room.times(1, 1, 999);
        check.same("one time ahead", room.holdsTo(0, 0, 0), -1);
        check.same("at the first time", room.holdsTo(0, 1, 0), 999);
        room.anchor(1, false);
        check.same("without a chain", room.holdsTo(0, 1, 0), -1);
    }

    private void otherwiseItself() {
        check.topic("promise 26, itself too, and if it is one, was none");
        SignetRoom room = new SignetRoom();
        room.letter(1, 2, 3, 4);
        check.same("10, then 0", room.otherwise(0, 0, 0), 1);
        room.anchor(0, true);
        check.same("0, then 10", room.otherwise(0, 0, 0), 1);
        room.good(0, 0, 0);
        check.same("3, then 10", room.otherwise(0, 0, 0), 1);
    }

    private void otherwiseAll() {
        check.topic("promise 26, all 20");
        SignetRoom room = Rooms.circle(20);
        check.same("10, then 0", room.otherwise(19, 0, 0), 20);
        room.anchor(19, true);
        check.same("0, then 10", room.otherwise(19, 0, 0), 20);
        check.same("another one changes nothing", room.otherwise(0, 0, 0), 0);
    }

    private void otherwiseNone() {
        check.topic("promise 26, none");
        SignetRoom room = Rooms.circle(2);
        room.anchor(0, true);
        check.same("it holds without, too", room.otherwise(1, 0, 0), 0);
        room.anchor(1, true);
        check.same("and so does this one", room.otherwise(0, 0, 0), 0);
    }

    /** An anchor is never called back: letter 0 has the flaw 7 until it is one, and then 3. */
    private void otherwiseOtherFlaw() {
        check.topic("promise 26, another flaw is otherwise");
        SignetRoom room = Rooms.longLadder(2);
        room.good(1, 14, 0);
        Rooms.addList(room, 2, 0, 999, 0, 1);
        check.same("verdict 7", room.verdict(0, 0, 0), 7);
        check.same("7, then 0", room.otherwise(0, 0, 0), 1);
        room.good(0, 14, 0);
        room.sign(0, 1);
        check.same("verdict 3", room.verdict(0, 0, 0), 3);
        check.same("3, then 3", room.otherwise(0, 0, 0), 0);
        check.same("3, 3, then 10, 10", room.otherwise(1, 0, 0), 2);
    }

    private void stolenItself() {
        check.topic("promise 27, itself too");
        SignetRoom room = Rooms.longLadder(3);
        check.same("the key of the first one", room.stolen(0, 0, 0), 1);
        check.same("of one between", room.stolen(1, 0, 0), 2);
    }

    private void stolenAnchor() {
        check.topic("promise 27, and the ANCHOR, too");
        check.same("6 long", Rooms.longLadder(6).stolen(5, 0, 0), 6);
        check.same("alone", Rooms.longLadder(1).stolen(0, 0, 0), 1);
    }

    private void stolenNoneAndAll() {
        check.topic("promise 27, the KEYS 0 and 15, none and all");
        SignetRoom room = new SignetRoom();
        for (int letter = 0; letter < 20; letter++) {
            Rooms.add(room, 1, 1, 15, 5, 15);
        }
        check.same("without an anchor", room.stolen(15, 0, 0), 0);
        room.anchor(19, true);
        check.same("key 15", room.stolen(15, 0, 0), 20);
        check.same("key 14", room.stolen(14, 0, 0), 0);
        check.same("key 0", room.stolen(0, 0, 0), 0);
        room.good(19, 0, 0);
        check.same("none holds", room.stolen(15, 0, 0), 0);
    }

    private void stolenFirstChainThatHolds() {
        check.topic("promise 27, in their first CHAIN that HOLDS");
        SignetRoom room = new SignetRoom();
        Rooms.add(room, 1, 2, 1, 5, 2);
        Rooms.add(room, 2, 3, 2, 5, 3);
        Rooms.add(room, 2, 3, 2, 5, 3);
        Rooms.add(room, 3, 9, 3, 5, 0);
        room.anchor(2, true);
        room.anchor(3, true);
        check.same("1.3 and 3", room.stolen(3, 0, 0), 2);
        room.times(2, 1, 999);
        room.sign(2, 3);
        check.same("0.1.3, 1.3 and 3", room.stolen(3, 0, 0), 3);
    }
}
