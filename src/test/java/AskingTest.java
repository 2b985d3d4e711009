/** Promises 12 to 19: what there is, seals, names, who backs whom, and how many chains. */
public final class AskingTest {
    private static final int LEAST = Integer.MIN_VALUE;
    private static final int MOST = Integer.MAX_VALUE;

    private final Check check = new Check();

    public static void main(String[] args) {
        AskingTest test = new AskingTest();
        test.promise12Many();
        test.promise13OfLetter();
        test.promise14OfList();
        test.promise15Signed();
        test.promise16Signer();
        test.promise17IsUnder();
        test.promise18Backs();
        test.promise18PrintZero();
        test.promise19Chains();
        test.promise19Most();
        test.check.end();
    }

    private void promise12Many() {
        check.topic("promise 12");
        SignetRoom room = Rooms.ladder();
        room.list(1, 0, 1);
        room.list(1, 0, 1);
        room.anchor(2, true);
        check.same("letters", room.many(0), 4);
        check.same("anchors", room.many(1), 2);
        check.same("lists", room.many(2), 2);
        check.same("pairs, one of them 0 with itself", room.many(3), 4);
        for (int wrong : new int[] {-1, 4, LEAST, MOST}) {
            check.illegal("many(" + wrong + ")", () -> room.many(wrong));
        }
        check.same("pairs that back each other", Rooms.circle(3).many(3), 9);
        check.same("all pairs of a full room", Rooms.circle(20).many(3), 400);
    }

    private void promise13OfLetter() {
        check.topic("promise 13");
        SignetRoom room = new SignetRoom();
        room.letter(9, 8, 7, 6);
        room.letter(12, 345, 6, 7);
        room.times(1, 89, 210);
        room.master(1, true, 4);
        room.good(1, 10, 13);
        room.anchor(1, true);
        int seal = room.sign(1, 9);
        int print = Check.print(17, 12, 345, 6, 7, 89, 210, 1, 4, 10, 13);
        int[] due = {12, 345, 6, 7, 89, 210, 1, 4, 10, 13, seal, print, 1};
        for (int what = 0; what < due.length; what++) {
            check.same("ofLetter(1, " + what + ")", room.ofLetter(1, what), due[what]);
        }
        check.same("seal by 9", seal, print * 21 % 997);
        for (int wrong : new int[] {-1, 13, LEAST, MOST}) {
            check.illegal("ofLetter(0, " + wrong + ")", () -> room.ofLetter(0, wrong));
            check.outside("letter and what", () -> room.ofLetter(2, wrong));
        }
        for (int wrong : new int[] {-1, 2, 20, LEAST, MOST}) {
            check.outside("letter " + wrong, () -> room.ofLetter(wrong, 0));
        }
    }

    private void promise14OfList() {
        check.topic("promise 14");
        SignetRoom room = new SignetRoom();
        room.list(1, 2, 3);
        room.list(45, 67, 89);
        room.call(1, 0);
        room.call(1, 29);
        int seal = room.signList(1, 2);
        int set = 1 + (1 << 29);
        int print = Check.print(19, 45, 67, 89, set % 997);
        int[] due = {45, 67, 89, set, print * 7 % 997, print};
        for (int what = 0; what < due.length; what++) {
            check.same("ofList(1, " + what + ")", room.ofList(1, what), due[what]);
        }
        check.same("seal", seal, due[4]);
        for (int wrong : new int[] {-1, 6, LEAST, MOST}) {
            check.illegal("ofList(0, " + wrong + ")", () -> room.ofList(0, wrong));
            check.outside("list and what", () -> room.ofList(2, wrong));
        }
        for (int wrong : new int[] {-1, 2, 8, LEAST, MOST}) {
            check.outside("list " + wrong, () -> room.ofList(wrong, 0));
        }
    }

    private void promise15Signed() {
        check.topic("promise 15");
        SignetRoom room = new SignetRoom();
        check.same("signed(0, 1)", room.signed(0, 1), 3);
        check.same("signed(15, 1)", room.signed(15, 1), 33);
        check.same("signed(15, 996)", room.signed(15, 996), 964);
        check.same("signed(7, 0)", room.signed(7, 0), 0);
        for (int key = 0; key <= 15; key++) {
            check.same("signed(key, 500)", room.signed(key, 500), 500 * (2 * key + 3) % 997);
        }
        for (int wrong : new int[] {-1, 16, LEAST, MOST}) {
            check.illegal("key " + wrong, () -> room.signed(wrong, 0));
        }
        for (int wrong : new int[] {-1, 997, LEAST, MOST}) {
            check.illegal("number " + wrong, () -> room.signed(0, wrong));
        }
    }

    private void promise16Signer() {
        check.topic("promise 16");
        SignetRoom room = new SignetRoom();
        check.same("signer(0, 0)", room.signer(0, 0), 0);
        check.same("signer(1, 0)", room.signer(1, 0), -1);
        check.same("signer(0, 1)", room.signer(0, 1), -1);
        check.same("signer(4, 1)", room.signer(4, 1), -1);
        check.same("signer(35, 1)", room.signer(35, 1), -1);
        check.same("signer(964, 996)", room.signer(964, 996), 15);
        for (int key = 0; key <= 15; key++) {
            check.same("signer of what key signs", room.signer(321 * (2 * key + 3) % 997, 321), key);
        }
        for (int wrong : new int[] {-1, 997, LEAST, MOST}) {
            check.illegal("seal " + wrong, () -> room.signer(wrong, 0));
            check.illegal("number " + wrong, () -> room.signer(0, wrong));
        }
    }

    private void promise17IsUnder() {
        check.topic("promise 17");
        SignetRoom room = new SignetRoom();
        int[][] under = {{1, 1}, {12, 1}, {1234, 123}, {1234, 12}, {1234, 1}, {1234, 1234}, {9999, 0}, {1, 0}};
        for (int[] pair : under) {
            check.same(pair[0] + " under " + pair[1], room.isUnder(pair[0], pair[1]), true);
        }
        int[][] not = {{1, 12}, {12, 2}, {1234, 234}, {1234, 124}, {1234, 13}, {2, 1}, {99, 8}, {123, 1234}};
        for (int[] pair : not) {
            check.same(pair[0] + " under " + pair[1], room.isUnder(pair[0], pair[1]), false);
        }
        for (int wrong : new int[] {-1, 10, 101, 1230, 10000, 11111, LEAST, MOST}) {
            check.illegal("name " + wrong, () -> room.isUnder(wrong, 1) ? 1 : 0);
            check.illegal("other " + wrong, () -> room.isUnder(1, wrong) ? 1 : 0);
        }
        check.illegal("name 0", () -> room.isUnder(0, 0) ? 1 : 0);
    }

    private void promise18Backs() {
        check.topic("promise 18");
        SignetRoom room = Rooms.ladder();
        check.same("0 backs 0", room.backs(0, 0), true);
        check.same("0 backs 1", room.backs(0, 1), true);
        check.same("1 backs 0", room.backs(1, 0), false);
        check.same("0 backs 2", room.backs(0, 2), false);
        room.anchor(0, false);
        room.master(0, false, 0);
        check.same("0 backs 1, no master and no anchor", room.backs(0, 1), true);
        check.same("0 backs 0, its seal being old", room.backs(0, 0), false);
        room.letter(1, 1, 5, 0);
        check.same("the same subject, another key", room.backs(4, 1), false);
        room.letter(2, 1, 0, 0);
        check.same("the same key, another subject", room.backs(5, 1), false);
        for (int wrong : new int[] {-1, 6, 20, LEAST, MOST}) {
            check.outside("one " + wrong, () -> room.backs(wrong, 0) ? 1 : 0);
            check.outside("other " + wrong, () -> room.backs(0, wrong) ? 1 : 0);
        }
    }

    /** For the print 0 the seal 0 is right by every key. */
    private void promise18PrintZero() {
        check.topic("promise 18, print 0");
        SignetRoom room = new SignetRoom();
        room.letter(1, 1, 0, 0);
        room.letter(1, 2, 9, 0);
        Rooms.setPrintZero(room, 0);
        int to = room.ofLetter(0, 5);
        check.same("print", room.ofLetter(0, 11), 0);
        check.same("itself", room.backs(0, 0), true);
        check.same("by another key", room.backs(1, 0), true);
        room.times(0, 0, to + 1 > 999 ? to - 1 : to + 1);
        check.same("with another print", room.backs(1, 0), false);
    }

    private void promise19Chains() {
        check.topic("promise 19");
        SignetRoom room = Rooms.ladder();
        for (int letter = 0; letter < 4; letter++) {
            check.same("chains of " + letter, room.chains(letter), 1);
        }
        room.anchor(2, true);
        check.same("with an anchor on the way", room.chains(3), 2);
        check.same("of the anchor on the way", room.chains(2), 2);
        room.anchor(0, false);
        check.same("with that anchor alone", room.chains(3), 1);
        check.same("behind it", room.chains(1), 0);
        for (int wrong : new int[] {-1, 4, LEAST, MOST}) {
            check.outside("letter " + wrong, () -> room.chains(wrong));
        }
        check.same("6 long", Rooms.longLadder(6).chains(0), 1);
        check.same("7 long", Rooms.longLadder(7).chains(0), 0);
        check.same("7 long, from the second one", Rooms.longLadder(7).chains(1), 1);
    }

    private void promise19Most() {
        check.topic("promise 19, many chains");
        SignetRoom room = Rooms.circle(4);
        check.same("no anchor", room.chains(0), 0);
        room.anchor(3, true);
        check.same("one anchor", room.chains(0), 1 + 2 + 2);
        check.same("of the anchor", room.chains(3), 1);
        for (int letter = 0; letter < 4; letter++) {
            room.anchor(letter, true);
        }
        check.same("four anchors", room.chains(0), 1 + 3 + 6 + 6);
        check.same("without an anchor", Rooms.circle(20).chains(7), 0);
        SignetRoom full = Rooms.circle(20);
        full.anchor(19, true);
        check.same("60 at most", full.chains(0), 60);
        SignetRoom five = Rooms.circle(5);
        five.anchor(4, true);
        check.same("fewer than 60", five.chains(0), 1 + 3 + 6 + 6);
    }
}
