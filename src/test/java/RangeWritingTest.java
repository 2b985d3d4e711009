/** Promises 1 to 11: the smallest and the largest argument that is allowed, and what is so at first. */
public final class RangeWritingTest {
    private static final int[] EDGE_NAMES = {1, 9, 11, 19, 91, 99, 111, 999, 1111, 9999};

    private final Check check = new Check();

    public static void main(String[] args) {
        RangeWritingTest test = new RangeWritingTest();
        test.withoutLetters();
        test.letterNumbers();
        test.letterAtFirst();
        test.letterNames();
        test.letterKeys();
        test.letterSerials();
        test.sameLetterTwice();
        test.timesFromAndTo();
        test.sealStays();
        test.masterReach();
        test.goodUses();
        test.goodBound();
        test.signKeys();
        test.signPrintZero();
        test.anchorsFromNoneToAll();
        test.listNumbers();
        test.listAtFirst();
        test.listIssuers();
        test.listAtAndNext();
        test.callSerials();
        test.callFromNoneToAll();
        test.callLeavesTheSeal();
        test.signListKeys();
        test.strictAtFirst();
        test.lastLetterAndLastList();
        test.check.end();
    }

    private void withoutLetters() {
        check.topic("promise 1, a room without LETTERS");
        SignetRoom room = new SignetRoom();
        for (int what = 0; what <= 3; what++) {
            check.same("many(" + what + ")", room.many(what), 0);
        }
        check.same("isOf(1, 0, 0, 0)", room.isOf(1, 0, 0, 0), false);
        check.same("stolen(0, 0, 0)", room.stolen(0, 0, 0), 0);
        check.sameNumber("meanChain(0, 0)", room.meanChain(0, 0), 0);
        for (int letter = 0; letter < 20; letter++) {
            int asked = letter;
            check.outside("ofLetter " + letter, () -> room.ofLetter(asked, 0));
        }
        for (int list = 0; list < 8; list++) {
            int asked = list;
            check.outside("ofList " + list, () -> room.ofList(asked, 0));
        }
    }

    private void letterNumbers() {
        check.topic("promise 2, at most 20, numbered from 0");
        SignetRoom room = new SignetRoom();
        for (int number = 0; number < 20; number++) {
            check.same("letter", room.letter(1, 1, 0, 0), number);
            check.same("letters", room.many(0), number + 1);
        }
        check.full("the 21st", () -> room.letter(1, 1, 0, 0));
        check.full("the 21st again", () -> room.letter(1, 1, 0, 0));
        check.same("letters", room.many(0), 20);
    }

    private void letterAtFirst() {
        check.topic("promise 2, what a LETTER has at first");
        SignetRoom room = new SignetRoom();
        for (int letter = 0; letter < 20; letter++) {
            room.letter(9999, 1111, 15, 30);
            int print = Check.print(17, 9999, 1111, 15, 30, 0, 999, 0, 0, 15, 0);
            int[] due = {9999, 1111, 15, 30, 0, 999, 0, 0, 15, 0, 0, print, 0};
            for (int what = 0; what < due.length; what++) {
                check.same("ofLetter(" + letter + ", " + what + ")", room.ofLetter(letter, what), due[what]);
            }
        }
    }

    private void letterNames() {
        check.topic("promise 2, the SUBJECT and the ISSUER, first and last ones");
        SignetRoom room = new SignetRoom();
        for (int edge = 0; edge < EDGE_NAMES.length; edge++) {
            int other = EDGE_NAMES[EDGE_NAMES.length - 1 - edge];
            check.same("letter", room.letter(EDGE_NAMES[edge], other, 0, 0), edge);
            check.same("subject", room.ofLetter(edge, 0), EDGE_NAMES[edge]);
            check.same("issuer", room.ofLetter(edge, 1), other);
        }
    }

    private void letterKeys() {
        check.topic("promise 2, the KEY, 0 to 15");
        SignetRoom room = new SignetRoom();
        for (int key = 0; key <= 15; key++) {
            check.same("letter", room.letter(1, 1, key, 0), key);
            check.same("key", room.ofLetter(key, 2), key);
            room.sign(key, key);
            check.same("it is sealed by it", room.backs(key, key), true);
        }
    }

    private void letterSerials() {
        check.topic("promise 2, the SERIAL, 0 to 30");
        for (int serial = 0; serial <= 30; serial++) {
            SignetRoom room = new SignetRoom();
            check.same("letter", room.letter(1, 1, 0, serial), 0);
            check.same("serial", room.ofLetter(0, 3), serial);
            check.same("print", room.ofLetter(0, 11), Check.print(17, 1, 1, 0, serial, 0, 999, 0, 0, 15, 0));
        }
    }

    private void sameLetterTwice() {
        check.topic("promise 2, the same LETTER twice is two");
        SignetRoom room = new SignetRoom();
        check.same("first", room.letter(12, 12, 3, 4), 0);
        check.same("second", room.letter(12, 12, 3, 4), 1);
        room.good(1, 1, 12);
        check.same("uses of the first", room.ofLetter(0, 8), 15);
        check.same("bound of the second", room.ofLetter(1, 9), 12);
    }

    private void timesFromAndTo() {
        check.topic("promise 3, FROM and TO, 0 to 999, FROM not above TO");
        int[][] edges = {{0, 0}, {0, 1}, {0, 999}, {1, 1}, {998, 998}, {998, 999}, {999, 999}};
        for (int[] edge : edges) {
            SignetRoom room = new SignetRoom();
            room.letter(1, 2, 3, 4);
            int due = Check.print(17, 1, 2, 3, 4, edge[0], edge[1], 0, 0, 15, 0);
            check.same("times", room.times(0, edge[0], edge[1]), due);
            check.same("from", room.ofLetter(0, 4), edge[0]);
            check.same("to", room.ofLetter(0, 5), edge[1]);
        }
    }

    private void sealStays() {
        check.topic("promise 3, its SEAL stays, as with master() and good()");
        SignetRoom room = new SignetRoom();
        room.letter(1, 1, 3, 4);
        int seal = room.sign(0, 3);
        room.times(0, 0, 998);
        check.same("seal after times", room.ofLetter(0, 10), seal);
        check.same("not right any more", room.backs(0, 0), false);
        room.times(0, 0, 999);
        check.same("right again", room.backs(0, 0), true);
        room.master(0, false, 1);
        check.same("seal after master", room.ofLetter(0, 10), seal);
        check.same("not right any more", room.backs(0, 0), false);
        room.master(0, false, 0);
        check.same("right again", room.backs(0, 0), true);
        room.good(0, 14, 0);
        check.same("seal after good", room.ofLetter(0, 10), seal);
        check.same("not right any more", room.backs(0, 0), false);
        room.good(0, 15, 0);
        check.same("right again", room.backs(0, 0), true);
    }

    private void masterReach() {
        check.topic("promise 4, the REACH, 0 to 5");
        SignetRoom room = new SignetRoom();
        room.letter(1, 2, 3, 4);
        for (int reach = 0; reach <= 5; reach++) {
            int due = Check.print(17, 1, 2, 3, 4, 0, 999, 1, reach, 15, 0);
            check.same("master", room.master(0, true, reach), due);
            check.same("is a master", room.ofLetter(0, 6), 1);
            check.same("reach", room.ofLetter(0, 7), reach);
            due = Check.print(17, 1, 2, 3, 4, 0, 999, 0, reach, 15, 0);
            check.same("no master", room.master(0, false, reach), due);
            check.same("is no master", room.ofLetter(0, 6), 0);
            check.same("reach", room.ofLetter(0, 7), reach);
        }
    }

    private void goodUses() {
        check.topic("promise 5, the USES, 0 to 15");
        SignetRoom room = new SignetRoom();
        room.letter(1, 2, 3, 4);
        for (int uses = 0; uses <= 15; uses++) {
            int due = Check.print(17, 1, 2, 3, 4, 0, 999, 0, 0, uses, 0);
            check.same("good", room.good(0, uses, 0), due);
            check.same("uses", room.ofLetter(0, 8), uses);
        }
    }

    private void goodBound() {
        check.topic("promise 5, the BOUND, a NAME or 0");
        SignetRoom room = new SignetRoom();
        room.letter(1, 2, 3, 4);
        for (int bound : EDGE_NAMES) {
            int due = Check.print(17, 1, 2, 3, 4, 0, 999, 0, 0, 15, bound);
            check.same("good", room.good(0, 15, bound), due);
            check.same("bound", room.ofLetter(0, 9), bound);
        }
        check.same("good, 0", room.good(0, 15, 0), Check.print(17, 1, 2, 3, 4, 0, 999, 0, 0, 15, 0));
        check.same("bound", room.ofLetter(0, 9), 0);
    }

    private void signKeys() {
        check.topic("promise 6, the KEY that signs, 0 to 15");
        SignetRoom room = new SignetRoom();
        room.letter(1, 2, 3, 4);
        int print = Check.print(17, 1, 2, 3, 4, 0, 999, 0, 0, 15, 0);
        for (int key = 0; key <= 15; key++) {
            check.same("sign", room.sign(0, key), print * (2 * key + 3) % 997);
            check.same("seal", room.ofLetter(0, 10), print * (2 * key + 3) % 997);
            check.same("its key", room.ofLetter(0, 2), 3);
        }
    }

    private void signPrintZero() {
        check.topic("promise 6, every KEY signs the PRINT 0 with 0");
        SignetRoom room = new SignetRoom();
        room.letter(1, 2, 0, 0);
        Rooms.setPrintZero(room, 0);
        check.same("print", room.ofLetter(0, 11), 0);
        for (int key = 0; key <= 15; key++) {
            check.same("sign", room.sign(0, key), 0);
        }
    }

    private void anchorsFromNoneToAll() {
        check.topic("promise 7, from no ANCHOR to 20 and back");
        SignetRoom room = Rooms.circle(20);
        check.same("none is taken off", room.anchor(0, false), 0);
        for (int letter = 0; letter < 20; letter++) {
            check.same("anchor", room.anchor(letter, true), letter + 1);
            check.same("anchor again", room.anchor(letter, true), letter + 1);
            check.same("many(1)", room.many(1), letter + 1);
            check.same("is one", room.ofLetter(letter, 12), 1);
        }
        for (int letter = 19; letter >= 0; letter--) {
            check.same("no anchor", room.anchor(letter, false), letter);
            check.same("no anchor again", room.anchor(letter, false), letter);
            check.same("is none", room.ofLetter(letter, 12), 0);
        }
    }

    private void listNumbers() {
        check.topic("promise 8, at most 8, numbered from 0");
        SignetRoom room = new SignetRoom();
        for (int number = 0; number < 8; number++) {
            check.same("list", room.list(1, 0, 0), number);
            check.same("lists", room.many(2), number + 1);
        }
        check.full("the ninth", () -> room.list(1, 0, 0));
        check.full("the ninth again", () -> room.list(1, 0, 0));
        check.same("lists", room.many(2), 8);
    }

    private void listAtFirst() {
        check.topic("promise 8, a LIST with no SERIALS");
        SignetRoom room = new SignetRoom();
        for (int list = 0; list < 8; list++) {
            room.list(9999, 0, 999);
            int[] due = {9999, 0, 999, 0, 0, Check.print(19, 9999, 0, 999, 0)};
            for (int what = 0; what < due.length; what++) {
                check.same("ofList(" + list + ", " + what + ")", room.ofList(list, what), due[what]);
            }
        }
    }

    private void listIssuers() {
        check.topic("promise 8, the ISSUER, first and last ones");
        for (int issuer : EDGE_NAMES) {
            SignetRoom room = new SignetRoom();
            check.same("list", room.list(issuer, 0, 0), 0);
            check.same("issuer", room.ofList(0, 0), issuer);
            check.same("print", room.ofList(0, 5), Check.print(19, issuer, 0, 0, 0));
        }
    }

    private void listAtAndNext() {
        check.topic("promise 8, AT and NEXT, 0 to 999, AT not above NEXT");
        int[][] edges = {{0, 0}, {0, 1}, {0, 999}, {1, 1}, {998, 998}, {998, 999}, {999, 999}};
        SignetRoom room = new SignetRoom();
        for (int list = 0; list < edges.length; list++) {
            check.same("list", room.list(1, edges[list][0], edges[list][1]), list);
            check.same("at", room.ofList(list, 1), edges[list][0]);
            check.same("next", room.ofList(list, 2), edges[list][1]);
            check.same("print", room.ofList(list, 5), Check.print(19, 1, edges[list][0], edges[list][1], 0));
        }
    }

    private void callSerials() {
        check.topic("promise 9, a SERIAL, 0 to 30");
        SignetRoom room = new SignetRoom();
        room.list(1, 2, 3);
        for (int serial = 0; serial <= 30; serial++) {
            check.same("put on", room.call(0, serial), 1);
            check.same("set", room.ofList(0, 3), 1 << serial);
            check.same("print", room.ofList(0, 5), Check.print(19, 1, 2, 3, (1 << serial) % 997));
            check.same("taken off", room.call(0, serial), 0);
            check.same("empty set", room.ofList(0, 3), 0);
        }
    }

    private void callFromNoneToAll() {
        check.topic("promise 9, from no SERIAL to 31 and back");
        SignetRoom room = new SignetRoom();
        room.list(1, 2, 3);
        long set = 0;
        for (int serial = 30; serial >= 0; serial--) {
            set += 1L << serial;
            check.same("put on", room.call(0, serial), 31 - serial);
            check.same("set", room.ofList(0, 3), set);
            check.same("print", room.ofList(0, 5), Check.print(19, 1, 2, 3, (int) (set % 997)));
        }
        check.same("set of all", room.ofList(0, 3), Integer.MAX_VALUE);
        for (int serial = 0; serial <= 30; serial++) {
            check.same("taken off", room.call(0, serial), 30 - serial);
        }
        check.same("set of none", room.ofList(0, 3), 0);
    }

    private void callLeavesTheSeal() {
        check.topic("promise 9, its SEAL stays");
        SignetRoom room = new SignetRoom();
        room.list(1, 2, 3);
        int seal = room.signList(0, 15);
        room.call(0, 0);
        check.same("seal with a serial on", room.ofList(0, 4), seal);
        check.same("is not signed anew", room.ofList(0, 5) * 33 % 997 == seal, false);
        room.call(0, 0);
        check.same("seal with it off", room.ofList(0, 4), seal);
    }

    private void signListKeys() {
        check.topic("promise 10, the KEY that signs, 0 to 15");
        SignetRoom room = new SignetRoom();
        room.list(9999, 999, 999);
        room.call(0, 30);
        int print = Check.print(19, 9999, 999, 999, (1 << 30) % 997);
        for (int key = 0; key <= 15; key++) {
            check.same("signList", room.signList(0, key), print * (2 * key + 3) % 997);
            check.same("seal", room.ofList(0, 4), print * (2 * key + 3) % 997);
        }
    }

    private void strictAtFirst() {
        check.topic("promise 11, not STRICT at first, and whether it was");
        check.same("false first", new SignetRoom().strict(false), false);
        SignetRoom room = new SignetRoom();
        check.same("true first", room.strict(true), false);
        check.same("true again", room.strict(true), true);
        check.same("false then", room.strict(false), true);
        check.same("false again", room.strict(false), false);
        check.same("true at the end", room.strict(true), false);
        check.same("another room", new SignetRoom().strict(false), false);
    }

    private void lastLetterAndLastList() {
        check.topic("promises 3 to 10, the last LETTER of 20 and the last LIST of 8");
        SignetRoom room = Rooms.circle(20);
        for (int list = 0; list < 8; list++) {
            room.list(1, 0, 0);
        }
        int serial = 19;
        check.same("times", room.times(19, 1, 2), Check.print(17, 1, 1, 0, serial, 1, 2, 1, 5, 15, 0));
        check.same("master", room.master(19, false, 4), Check.print(17, 1, 1, 0, serial, 1, 2, 0, 4, 15, 0));
        int print = Check.print(17, 1, 1, 0, serial, 1, 2, 0, 4, 3, 9);
        check.same("good", room.good(19, 3, 9), print);
        check.same("sign", room.sign(19, 1), print * 5 % 997);
        check.same("anchor", room.anchor(19, true), 1);
        check.same("call", room.call(7, 30), 1);
        check.same("signList", room.signList(7, 1), Check.print(19, 1, 0, 0, (1 << 30) % 997) * 5 % 997);
        check.same("the letter ahead has its times", room.ofLetter(18, 5), 999);
        check.same("the list ahead has no serial", room.ofList(6, 3), 0);
    }
}
