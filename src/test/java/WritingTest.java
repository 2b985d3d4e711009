/** Promises 1 to 11: a new object, letters and lists. */
public final class WritingTest {
    private static final int LEAST = Integer.MIN_VALUE;
    private static final int MOST = Integer.MAX_VALUE;
    private static final int[] NO_NAMES = {0, -1, 10, 20, 101, 110, 1011, 1101, 1110, 9990, 10000, 11111, LEAST, MOST};

    private final Check check = new Check();

    public static void main(String[] args) {
        WritingTest test = new WritingTest();
        test.promise1NewObject();
        test.promise2Letter();
        test.promise2Full();
        test.promise3Times();
        test.promise4Master();
        test.promise5Good();
        test.promise6Sign();
        test.promise7Anchor();
        test.promise8List();
        test.promise8Full();
        test.promise9Call();
        test.promise10SignList();
        test.promise11Strict();
        test.check.end();
    }

    private void promise1NewObject() {
        check.topic("promise 1");
        SignetRoom room = new SignetRoom();
        for (int what = 0; what <= 3; what++) {
            check.same("many(" + what + ")", room.many(what), 0);
        }
        check.outside("chains(0)", () -> room.chains(0));
        check.outside("ofList(0, 0)", () -> room.ofList(0, 0));
        check.same("strict", room.strict(false), false);
        SignetRoom other = new SignetRoom();
        room.letter(1, 1, 0, 0);
        check.same("letters of another room", other.many(0), 0);
    }

    private void promise2Letter() {
        check.topic("promise 2");
        SignetRoom room = new SignetRoom();
        for (int wrong : NO_NAMES) {
            check.illegal("subject " + wrong, () -> room.letter(wrong, 1, 0, 0));
            check.illegal("issuer " + wrong, () -> room.letter(1, wrong, 0, 0));
        }
        for (int wrong : new int[] {-1, 16, LEAST, MOST}) {
            check.illegal("key " + wrong, () -> room.letter(1, 1, wrong, 0));
        }
        for (int wrong : new int[] {-1, 31, LEAST, MOST}) {
            check.illegal("serial " + wrong, () -> room.letter(1, 1, 0, wrong));
        }
        check.same("letters after what was refused", room.many(0), 0);
        check.same("first", room.letter(9999, 1, 15, 30), 0);
        check.same("second", room.letter(7, 1234, 0, 0), 1);
        int[] due = {9999, 1, 15, 30, 0, 999, 0, 0, 15, 0, 0, 0, 0};
        due[11] = Check.print(17, 9999, 1, 15, 30, 0, 999, 0, 0, 15, 0);
        for (int what = 0; what < due.length; what++) {
            check.same("ofLetter(0, " + what + ")", room.ofLetter(0, what), due[what]);
        }
        check.same("subject", room.ofLetter(1, 0), 7);
        check.same("issuer", room.ofLetter(1, 1), 1234);
    }

    private void promise2Full() {
        check.topic("promise 2, 20 letters");
        SignetRoom room = new SignetRoom();
        for (int number = 0; number < 20; number++) {
            check.same("letter", room.letter(1 + number % 9, 11, number % 16, number), number);
        }
        check.full("the 21st", () -> room.letter(1, 1, 0, 0));
        check.illegal("the 21st with a wrong subject", () -> room.letter(10, 1, 0, 0));
        check.illegal("the 21st with a wrong serial", () -> room.letter(1, 1, 0, 31));
        check.same("letters", room.many(0), 20);
        check.same("serial of the last one", room.ofLetter(19, 3), 19);
        check.outside("letter 20", () -> room.ofLetter(20, 0));
    }

    private SignetRoom roomWithSealedLetter() {
        SignetRoom room = new SignetRoom();
        room.letter(12, 1, 3, 4);
        room.sign(0, 5);
        return room;
    }

    private void promise3Times() {
        check.topic("promise 3");
        SignetRoom room = roomWithSealedLetter();
        int seal = room.ofLetter(0, 10);
        check.same("times", room.times(0, 100, 200), Check.print(17, 12, 1, 3, 4, 100, 200, 0, 0, 15, 0));
        check.same("one time", room.times(0, 999, 999), Check.print(17, 12, 1, 3, 4, 999, 999, 0, 0, 15, 0));
        check.same("from 0 to 0", room.times(0, 0, 0), Check.print(17, 12, 1, 3, 4, 0, 0, 0, 0, 15, 0));
        check.same("all", room.times(0, 7, 8), room.ofLetter(0, 11));
        check.same("seal", room.ofLetter(0, 10), seal);
        for (int wrong : new int[] {-1, 1000, LEAST, MOST}) {
            check.illegal("from " + wrong, () -> room.times(0, wrong, 999));
            check.illegal("to " + wrong, () -> room.times(0, 0, wrong));
        }
        check.illegal("to below from", () -> room.times(0, 6, 5));
        for (int wrong : new int[] {-1, 1, 20, LEAST, MOST}) {
            check.outside("letter " + wrong, () -> room.times(wrong, 0, 9));
            check.outside("letter " + wrong + " with wrong times", () -> room.times(wrong, -1, -2));
        }
        check.same("from", room.ofLetter(0, 4), 7);
        check.same("to", room.ofLetter(0, 5), 8);
    }

    private void promise4Master() {
        check.topic("promise 4");
        SignetRoom room = roomWithSealedLetter();
        int seal = room.ofLetter(0, 10);
        check.same("reach 0", room.master(0, true, 0), Check.print(17, 12, 1, 3, 4, 0, 999, 1, 0, 15, 0));
        check.same("reach 5", room.master(0, false, 5), Check.print(17, 12, 1, 3, 4, 0, 999, 0, 5, 15, 0));
        check.same("reach 3", room.master(0, true, 3), Check.print(17, 12, 1, 3, 4, 0, 999, 1, 3, 15, 0));
        check.same("seal", room.ofLetter(0, 10), seal);
        for (int wrong : new int[] {-1, 6, LEAST, MOST}) {
            check.illegal("reach " + wrong, () -> room.master(0, false, wrong));
        }
        for (int wrong : new int[] {-1, 1, LEAST, MOST}) {
            check.outside("letter " + wrong, () -> room.master(wrong, false, 1));
            check.outside("letter " + wrong + " with a wrong reach", () -> room.master(wrong, false, 6));
        }
        check.same("master", room.ofLetter(0, 6), 1);
        check.same("reach", room.ofLetter(0, 7), 3);
    }

    private void promise5Good() {
        check.topic("promise 5");
        SignetRoom room = roomWithSealedLetter();
        int seal = room.ofLetter(0, 10);
        check.same("no uses", room.good(0, 0, 0), Check.print(17, 12, 1, 3, 4, 0, 999, 0, 0, 0, 0));
        check.same("all uses", room.good(0, 15, 9999), Check.print(17, 12, 1, 3, 4, 0, 999, 0, 0, 15, 9999));
        check.same("uses 5", room.good(0, 5, 12), Check.print(17, 12, 1, 3, 4, 0, 999, 0, 0, 5, 12));
        check.same("seal", room.ofLetter(0, 10), seal);
        for (int wrong : new int[] {-1, 16, LEAST, MOST}) {
            check.illegal("uses " + wrong, () -> room.good(0, wrong, 1));
        }
        for (int wrong : NO_NAMES) {
            if (wrong != 0) {
                check.illegal("bound " + wrong, () -> room.good(0, 1, wrong));
            }
        }
        for (int wrong : new int[] {-1, 1, LEAST, MOST}) {
            check.outside("letter " + wrong, () -> room.good(wrong, 1, 1));
            check.outside("letter " + wrong + " with wrong uses", () -> room.good(wrong, 16, 10));
        }
        check.same("uses", room.ofLetter(0, 8), 5);
        check.same("bound", room.ofLetter(0, 9), 12);
    }

    private void promise6Sign() {
        check.topic("promise 6");
        SignetRoom room = new SignetRoom();
        room.letter(1, 1, 0, 0);
        check.same("print", room.master(0, true, 2), 268);
        check.same("sign by 0", room.sign(0, 0), 804);
        check.same("sign by 15", room.sign(0, 15), 268 * 33 % 997);
        check.same("seal", room.ofLetter(0, 10), 268 * 33 % 997);
        check.same("print", room.ofLetter(0, 11), 268);
        for (int wrong : new int[] {-1, 16, LEAST, MOST}) {
            check.illegal("key " + wrong, () -> room.sign(0, wrong));
            check.outside("letter and key", () -> room.sign(1, wrong));
        }
        for (int wrong : new int[] {-1, 1, LEAST, MOST}) {
            check.outside("letter " + wrong, () -> room.sign(wrong, 0));
        }
        check.same("seal after what was refused", room.ofLetter(0, 10), 268 * 33 % 997);
    }

    private void promise7Anchor() {
        check.topic("promise 7");
        SignetRoom room = new SignetRoom();
        room.letter(1, 1, 0, 0);
        room.letter(2, 1, 0, 0);
        room.letter(3, 1, 0, 0);
        int print = room.ofLetter(0, 11);
        check.same("first", room.anchor(0, true), 1);
        check.same("again", room.anchor(0, true), 1);
        check.same("last", room.anchor(2, true), 2);
        check.same("none of it", room.anchor(1, false), 2);
        check.same("is one", room.ofLetter(0, 12), 1);
        check.same("is none", room.ofLetter(1, 12), 0);
        check.same("taken off", room.anchor(0, false), 1);
        check.same("is none now", room.ofLetter(0, 12), 0);
        check.same("print", room.ofLetter(0, 11), print);
        for (int wrong : new int[] {-1, 3, LEAST, MOST}) {
            check.outside("letter " + wrong, () -> room.anchor(wrong, true));
        }
        check.same("anchors", room.many(1), 1);
    }

    private void promise8List() {
        check.topic("promise 8");
        SignetRoom room = new SignetRoom();
        for (int wrong : NO_NAMES) {
            check.illegal("issuer " + wrong, () -> room.list(wrong, 0, 1));
        }
        for (int wrong : new int[] {-1, 1000, LEAST, MOST}) {
            check.illegal("at " + wrong, () -> room.list(1, wrong, 999));
            check.illegal("next " + wrong, () -> room.list(1, 0, wrong));
        }
        check.illegal("next below at", () -> room.list(1, 5, 4));
        check.same("lists", room.many(2), 0);
        check.same("first", room.list(1, 0, 0), 0);
        check.same("second", room.list(9999, 999, 999), 1);
        check.same("third", room.list(12, 34, 56), 2);
        int[] due = {12, 34, 56, 0, 0, Check.print(19, 12, 34, 56, 0)};
        for (int what = 0; what < due.length; what++) {
            check.same("ofList(2, " + what + ")", room.ofList(2, what), due[what]);
        }
    }

    private void promise8Full() {
        check.topic("promise 8, 8 lists");
        SignetRoom room = new SignetRoom();
        for (int number = 0; number < 8; number++) {
            check.same("list", room.list(1, number, 10), number);
        }
        check.full("the ninth", () -> room.list(1, 0, 1));
        check.illegal("the ninth with a wrong issuer", () -> room.list(0, 0, 1));
        check.illegal("the ninth with next below at", () -> room.list(1, 1, 0));
        check.same("lists", room.many(2), 8);
        check.same("at of the last one", room.ofList(7, 1), 7);
        check.outside("list 8", () -> room.ofList(8, 0));
    }

    private void promise9Call() {
        check.topic("promise 9");
        SignetRoom room = new SignetRoom();
        room.list(1, 0, 9);
        room.list(2, 0, 9);
        int seal = room.signList(0, 1);
        check.same("call 0", room.call(0, 0), 1);
        check.same("call 30", room.call(0, 30), 2);
        check.same("call 5", room.call(0, 5), 3);
        check.same("set", room.ofList(0, 3), 1 + (1 << 5) + (1 << 30));
        check.same("take 0 off", room.call(0, 0), 2);
        check.same("set without 0", room.ofList(0, 3), (1 << 5) + (1 << 30));
        check.same("put 0 on again", room.call(0, 0), 3);
        check.same("seal", room.ofList(0, 4), seal);
        check.same("set of the other list", room.ofList(1, 3), 0);
        for (int wrong : new int[] {-1, 31, 32, LEAST, MOST}) {
            check.illegal("serial " + wrong, () -> room.call(0, wrong));
            check.outside("list and serial", () -> room.call(2, wrong));
        }
        for (int wrong : new int[] {-1, 2, 8, LEAST, MOST}) {
            check.outside("list " + wrong, () -> room.call(wrong, 0));
        }
        for (int serial = 0; serial <= 30; serial++) {
            check.same("all on it", room.call(1, serial), serial + 1);
        }
        check.same("set of all", room.ofList(1, 3), MOST);
        check.same("print of all", room.ofList(1, 5), Check.print(19, 2, 0, 9, MOST % 997));
    }

    private void promise10SignList() {
        check.topic("promise 10");
        SignetRoom room = new SignetRoom();
        room.list(21, 3, 9);
        room.call(0, 30);
        int print = Check.print(19, 21, 3, 9, (1 << 30) % 997);
        check.same("print", room.ofList(0, 5), print);
        check.same("sign by 0", room.signList(0, 0), print * 3 % 997);
        check.same("sign by 15", room.signList(0, 15), print * 33 % 997);
        check.same("seal", room.ofList(0, 4), print * 33 % 997);
        for (int wrong : new int[] {-1, 16, LEAST, MOST}) {
            check.illegal("key " + wrong, () -> room.signList(0, wrong));
            check.outside("list and key", () -> room.signList(1, wrong));
        }
        for (int wrong : new int[] {-1, 1, LEAST, MOST}) {
            check.outside("list " + wrong, () -> room.signList(wrong, 0));
        }
        check.same("seal after what was refused", room.ofList(0, 4), print * 33 % 997);
    }

    private void promise11Strict() {
        check.topic("promise 11");
        SignetRoom room = new SignetRoom();
        check.same("at first", room.strict(true), false);
        check.same("then", room.strict(true), true);
        check.same("still", room.strict(false), true);
        check.same("no more", room.strict(false), false);
    }
}
