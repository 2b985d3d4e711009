/** Promises 25 to 28: what would be, which changes nothing, and the digest. */
public final class WhatWouldBeTest {
    private static final int LEAST = Integer.MIN_VALUE;
    private static final int MOST = Integer.MAX_VALUE;

    private final Check check = new Check();

    public static void main(String[] args) {
        WhatWouldBeTest test = new WhatWouldBeTest();
        test.promise25HoldsTo();
        test.promise25SeveralChains();
        test.promise25Lists();
        test.promise26Otherwise();
        test.promise26KindOfVerdict();
        test.promise27Stolen();
        test.promise28Digest();
        test.promise28EveryPart();
        test.wrongArguments();
        test.nothingIsChanged();
        test.check.end();
    }

    private void promise25HoldsTo() {
        check.topic("promise 25");
        SignetRoom room = Rooms.ladder();
        check.same("to the end", room.holdsTo(3, 0, 0), 999);
        check.same("at the end", room.holdsTo(3, 999, 0), 999);
        room.times(1, 0, 998);
        room.sign(1, 0);
        check.same("nearly to the end", room.holdsTo(3, 0, 0), 998);
        room.times(1, 100, 200);
        room.sign(1, 0);
        check.same("not yet", room.holdsTo(3, 99, 0), -1);
        check.same("from the first time", room.holdsTo(3, 100, 0), 200);
        check.same("at the last time", room.holdsTo(3, 200, 0), 200);
        check.same("no more", room.holdsTo(3, 201, 0), -1);
        room.good(1, 2, 0);
        room.sign(1, 0);
        check.same("for use 1", room.holdsTo(3, 150, 1), 200);
        check.same("for use 0", room.holdsTo(3, 150, 0), -1);
        room.sign(1, 9);
        check.same("without a chain", room.holdsTo(3, 150, 1), -1);
    }

    /** Chain by chain takes over: what counts is that some chain holds at each time. */
    private void promise25SeveralChains() {
        check.topic("promise 25, several chains");
        SignetRoom room = Rooms.ladder();
        room.times(0, 0, 300);
        room.sign(0, 0);
        Rooms.add(room, 1, 1, 0, 5, 0);
        room.times(4, 301, 500);
        room.sign(4, 0);
        room.anchor(4, true);
        Rooms.add(room, 1, 1, 0, 5, 0);
        room.times(5, 200, 310);
        room.sign(5, 0);
        room.anchor(5, true);
        check.same("without a break", room.holdsTo(3, 0, 0), 500);
        room.times(4, 302, 500);
        check.same("the third one lies between", room.holdsTo(3, 0, 0), 500);
        room.anchor(5, false);
        check.same("with a break", room.holdsTo(3, 0, 0), 300);
        check.same("behind the break", room.holdsTo(3, 302, 0), 500);
    }

    private void promise25Lists() {
        check.topic("promise 25, lists");
        SignetRoom room = Rooms.ladder();
        Rooms.addList(room, 1, 400, 500, 1, 0);
        check.same("up to the list", room.holdsTo(1, 0, 0), 399);
        check.same("then called back", room.holdsTo(1, 400, 0), -1);
        Rooms.addList(room, 1, 600, 700, -1, 0);
        check.same("no more called back", room.holdsTo(1, 600, 0), 999);
        room.strict(true);
        check.same("up to NEXT", room.holdsTo(1, 600, 0), 700);
        check.same("at NEXT", room.holdsTo(1, 700, 0), 700);
        check.same("above NEXT", room.holdsTo(1, 701, 0), -1);
    }

    private void promise26Otherwise() {
        check.topic("promise 26");
        SignetRoom room = Rooms.ladder();
        check.same("without the anchor", room.otherwise(0, 0, 0), 4);
        check.same("another anchor changes nothing", room.otherwise(3, 0, 0), 0);
        room.anchor(0, false);
        check.same("if 0 was one", room.otherwise(0, 0, 0), 4);
        check.same("if 2 was one", room.otherwise(2, 0, 0), 2);
        check.same("if 3 was one", room.otherwise(3, 0, 0), 1);
        check.same("anchors", room.many(1), 0);
        room.anchor(1, true);
        check.same("if 1 was none", room.otherwise(1, 0, 0), 3);
        check.same("if 0 was one, too", room.otherwise(0, 0, 0), 1);
        room.times(2, 5, 999);
        room.sign(2, 1);
        check.same("10 instead of 1 and 0", room.otherwise(1, 0, 0), 3);
        room.good(0, 14, 0);
        room.sign(0, 0);
        check.same("3 instead of 10", room.otherwise(0, 0, 0), 1);
        check.same("0 instead of 10", room.otherwise(0, 0, 1), 1);
        for (int wrong : new int[] {-1, 4, LEAST, MOST}) {
            check.outside("letter " + wrong, () -> room.otherwise(wrong, 0, 0));
        }
    }

    /** A verdict that is another flaw than before is otherwise, and so is a list's word on it. */
    private void promise26KindOfVerdict() {
        check.topic("promise 26, another flaw");
        SignetRoom room = Rooms.ladder();
        room.times(0, 0, 5);
        room.sign(0, 0);
        check.same("verdict before", room.verdict(3, 6, 0), 2);
        room.master(2, false, 0);
        room.sign(2, 1);
        check.same("verdict then", room.verdict(3, 6, 0), 4);
        check.same("3: 4 instead of 4; 2: 0 instead of 2", room.otherwise(2, 6, 0), 1);
        check.same("1: 0, 2: 0, 3: still 4", room.otherwise(1, 6, 0), 2);
        room.strict(true);
        check.same("1: 0 instead of 7, others still 7", room.otherwise(1, 4, 0), 1);
    }

    private void promise27Stolen() {
        check.topic("promise 27");
        SignetRoom room = Rooms.ladder();
        check.same("the anchor's", room.stolen(0, 0, 0), 4);
        check.same("key 1", room.stolen(1, 0, 0), 3);
        check.same("key 2", room.stolen(2, 0, 0), 2);
        check.same("key 3", room.stolen(3, 0, 0), 1);
        check.same("nobody's", room.stolen(15, 0, 0), 0);
        room.times(3, 5, 9);
        room.sign(3, 2);
        check.same("of letters that hold", room.stolen(1, 4, 0), 2);
        room.good(3, 1, 0);
        room.sign(3, 2);
        check.same("for a use", room.stolen(1, 5, 0), 3);
        check.same("for another use", room.stolen(1, 5, 1), 2);
        room.anchor(2, true);
        check.same("not in the first chain that holds", room.stolen(1, 5, 0), 1);
        check.same("nor the old anchor", room.stolen(0, 5, 0), 2);
        room.anchor(0, false);
        room.anchor(2, false);
        check.same("without anchors", room.stolen(0, 5, 0), 0);
    }

    private void promise28Digest() {
        check.topic("promise 28");
        check.same("of nothing", new SignetRoom().digest(), 58102L * 31 * 31 * 31 * 31);
        SignetRoom room = new SignetRoom();
        room.list(12, 3, 45);
        long due = 58102;
        for (int value : new int[] {0, 0, 1, 0, 12, 3, 45, 0, 0, Check.print(19, 12, 3, 45, 0)}) {
            due = due * 31 + value;
        }
        check.same("of one list", room.digest(), due);
        SignetRoom one = new SignetRoom();
        one.letter(1, 1, 0, 0);
        one.times(0, 200, 999);
        one.good(0, 1, 0);
        int seal = one.sign(0, 0);
        one.anchor(0, true);
        int print = Check.print(17, 1, 1, 0, 0, 200, 999, 0, 0, 1, 0);
        due = 58102;
        for (int value : new int[] {1, 1, 0, 1, 1, 1, 0, 0, 200, 999, 0, 0, 1, 0, seal, print, 1, 1}) {
            due = due * 31 + value;
        }
        for (int value : new int[] {1, 0, 1, 0, 0, -1, 3, 0}) {
            due = due * 31 + value;
        }
        check.same("of one letter", one.digest(), due);
    }

    private void promise28EveryPart() {
        check.topic("promise 28, made from what the calls answer");
        SignetRoom room = Rooms.ladder();
        Rooms.addList(room, 11, 101, 400, 2, 1);
        Rooms.addList(room, 1, 50, 499, 30, 0);
        room.good(3, 4, 0);
        room.sign(3, 2);
        room.letter(5, 6, 7, 8);
        check.same("digest", room.digest(), digestOf(room));
        room.strict(true);
        check.same("digest of the strict room", room.digest(), digestOf(room));
    }

    private static long digestOf(SignetRoom room) {
        long d = 58102;
        for (int what = 0; what <= 3; what++) {
            d = d * 31 + room.many(what);
        }
        for (int letter = 0; letter < room.many(0); letter++) {
            for (int what = 0; what <= 12; what++) {
                d = d * 31 + room.ofLetter(letter, what);
            }
            d = d * 31 + room.chains(letter);
            for (int[] moment : new int[][] {{100, 0}, {100, 2}, {500, 0}, {500, 2}}) {
                d = d * 31 + room.verdict(letter, moment[0], moment[1]);
                d = d * 31 + room.flawAt(letter, moment[0], moment[1]);
            }
        }
        for (int list = 0; list < room.many(2); list++) {
            for (int what = 0; what <= 5; what++) {
                d = d * 31 + room.ofList(list, what);
            }
        }
        return d;
    }

    private void wrongArguments() {
        check.topic("wrong arguments");
        SignetRoom room = Rooms.ladder();
        for (int wrong : new int[] {-1, 1000, LEAST, MOST}) {
            check.illegal("holdsTo, time " + wrong, () -> room.holdsTo(0, wrong, 0));
            check.illegal("otherwise, time " + wrong, () -> room.otherwise(0, wrong, 0));
            check.illegal("stolen, time " + wrong, () -> room.stolen(0, wrong, 0));
        }
        for (int wrong : new int[] {-1, 4, LEAST, MOST}) {
            check.illegal("holdsTo, use " + wrong, () -> room.holdsTo(0, 0, wrong));
            check.illegal("otherwise, use " + wrong, () -> room.otherwise(0, 0, wrong));
            check.illegal("stolen, use " + wrong, () -> room.stolen(0, 0, wrong));
            check.outside("holdsTo, letter " + wrong, () -> room.holdsTo(wrong, 0, 0));
            check.outside("holdsTo, all wrong", () -> room.holdsTo(wrong, -1, 4));
            check.outside("otherwise, all wrong", () -> room.otherwise(wrong, -1, 4));
        }
        for (int wrong : new int[] {-1, 16, LEAST, MOST}) {
            check.illegal("stolen, key " + wrong, () -> room.stolen(wrong, 0, 0));
        }
    }

    private void nothingIsChanged() {
        check.topic("nothing is changed");
        SignetRoom room = Rooms.circle(20);
        room.anchor(3, true);
        room.anchor(17, true);
        Rooms.addList(room, 1, 100, 200, 4, 0);
        long before = room.digest();
        for (int letter = 0; letter < 20; letter++) {
            room.holdsTo(letter, 0, 0);
            room.otherwise(letter, 150, 1);
        }
        room.stolen(0, 0, 0);
        check.same("anchors", room.many(1), 2);
        check.same("digest", room.digest(), before);
        check.same("digest again", room.digest(), before);
    }
}
