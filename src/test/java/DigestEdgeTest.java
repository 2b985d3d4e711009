import java.math.BigInteger;
import java.util.ArrayList;
import java.util.List;

/** Promise 28: what the checksum is made of, in which order, and that it wraps around. */
public final class DigestEdgeTest {
    private static final int[][] MOMENTS = {{100, 0}, {100, 2}, {500, 0}, {500, 2}};

    private final Check check = new Check();
    private boolean cameBelowZero;
    private boolean cameAboveZero;

    public static void main(String[] args) {
        DigestEdgeTest test = new DigestEdgeTest();
        test.ofNothing();
        test.ofOneLetter();
        test.ofNone();
        test.ofEachTimeAndUse();
        test.ofTheLargestSet();
        test.ofTheFullRoom();
        test.ofManyChains();
        test.ofLadders();
        test.afterEachCall();
        test.changesNothing();
        test.asTheLastCall();
        test.bothSigns();
        test.check.end();
    }

    /** The sum without a limit of its length. */
    private static BigInteger unwrapped(List<Integer> values) {
        BigInteger d = BigInteger.valueOf(58102);
        for (int value : values) {
            d = d.multiply(BigInteger.valueOf(31)).add(BigInteger.valueOf(value));
        }
        return d;
    }

    /** What the calls answer, each letter and each list asked on an object of its own. */
    private static List<Integer> valuesOf(Trial.Maker maker) {
        List<Integer> values = new ArrayList<>();
        SignetRoom first = maker.make();
        for (int what = 0; what <= 3; what++) {
            values.add(first.many(what));
        }
        for (int letter = 0; letter < values.get(0); letter++) {
            addLetter(values, maker.make(), letter);
        }
        for (int list = 0; list < values.get(2); list++) {
            SignetRoom room = maker.make();
            for (int what = 0; what <= 5; what++) {
                values.add(room.ofList(list, what));
            }
        }
        return values;
    }

    private static void addLetter(List<Integer> values, SignetRoom room, int letter) {
        for (int what = 0; what <= 12; what++) {
            values.add(room.ofLetter(letter, what));
        }
        values.add(room.chains(letter));
        for (int[] moment : MOMENTS) {
            values.add(room.verdict(letter, moment[0], moment[1]));
            values.add(room.flawAt(letter, moment[0], moment[1]));
        }
    }

    private void digest(String what, Trial.Maker maker, boolean wraps) {
        BigInteger due = unwrapped(valuesOf(maker));
        check.same(what + " is too long for 64 bits", due.bitLength() > 63, wraps);
        check.same(what, maker.make().digest(), due.longValue());
        cameBelowZero |= due.longValue() < 0;
        cameAboveZero |= due.longValue() > 0;
    }

    private void ofNothing() {
        check.topic("promise 28, without LETTERS and LISTS");
        check.same("digest", new SignetRoom().digest(), 58102L * 923521);
        check.same("it is longer than 32 bits", new SignetRoom().digest() > Integer.MAX_VALUE, true);
        digest("of nothing", SignetRoom::new, false);
    }

    private void ofOneLetter() {
        check.topic("promise 28, many() of 0 to 3, then LETTER by LETTER");
        SignetRoom room = new SignetRoom();
        room.letter(12, 3, 4, 5);
        room.times(0, 101, 499);
        room.master(0, true, 2);
        room.good(0, 4, 1);
        int seal = room.sign(0, 6);
        room.anchor(0, true);
        int print = Check.print(17, 12, 3, 4, 5, 101, 499, 1, 2, 4, 1);
        List<Integer> values = new ArrayList<>(List.of(1, 1, 0, 0, 12, 3, 4, 5));
        values.addAll(List.of(101, 499, 1, 2, 4, 1, seal, print, 1, 1));
        values.addAll(List.of(1, 0, 1, 0, 2, 0, 2, 0));
        BigInteger due = unwrapped(values);
        check.same("digest", room.digest(), due.longValue());
        check.same("it wraps around", due.bitLength() > 63, true);
    }

    private void ofNone() {
        check.topic("promise 28, the VERDICT 10 and NONE, which is -1");
        SignetRoom room = new SignetRoom();
        room.letter(1, 1, 0, 0);
        int print = Check.print(17, 1, 1, 0, 0, 0, 999, 0, 0, 15, 0);
        List<Integer> values = new ArrayList<>(List.of(1, 0, 0, 0, 1, 1, 0, 0));
        values.addAll(List.of(0, 999, 0, 0, 15, 0, 0, print, 0, 0));
        values.addAll(List.of(10, -1, 10, -1, 10, -1, 10, -1));
        check.same("digest", room.digest(), unwrapped(values).longValue());
    }

    /** An anchor that holds at one of the four moments alone, or not at the times beside them. */
    private void ofEachTimeAndUse() {
        check.topic("promise 28, the times 100 and 500 and the uses 0 and 2");
        int[][] times = {{100, 100}, {500, 500}, {99, 101}, {101, 499}, {499, 501}, {0, 99}, {501, 999}, {0, 999}};
        for (int[] time : times) {
            for (int uses = 0; uses <= 15; uses++) {
                int asked = uses;
                digest("times " + time[0] + " to " + time[1] + ", uses " + uses, () -> {
                    SignetRoom room = Rooms.circle(1);
                    room.anchor(0, true);
                    room.times(0, time[0], time[1]);
                    room.good(0, asked, 0);
                    return room;
                }, true);
            }
        }
    }

    private void ofTheLargestSet() {
        check.topic("promise 28, LIST by LIST ofList() of 0 to 5");
        SignetRoom room = new SignetRoom();
        room.list(9999, 998, 999);
        for (int serial = 0; serial <= 30; serial++) {
            room.call(0, serial);
        }
        int seal = room.signList(0, 15);
        int print = Check.print(19, 9999, 998, 999, Integer.MAX_VALUE % 997);
        BigInteger due = unwrapped(List.of(0, 0, 1, 0, 9999, 998, 999, Integer.MAX_VALUE, seal, print));
        check.same("digest", room.digest(), due.longValue());
    }

    private static SignetRoom makeFull() {
        SignetRoom room = Rooms.circle(20);
        for (int letter = 0; letter < 20; letter += 3) {
            room.anchor(letter, true);
            room.times(letter, letter * 20, 999 - letter * 30);
        }
        for (int list = 0; list < 8; list++) {
            Rooms.addList(room, 1, 80 * list, 999, 3 * list, 0);
        }
        room.strict(true);
        return room;
    }

    private void ofTheFullRoom() {
        check.topic("promise 28, 20 LETTERS and 8 LISTS");
        digest("a full room", DigestEdgeTest::makeFull, true);
        check.same("so many numbers", valuesOf(DigestEdgeTest::makeFull).size(), 4 + 20 * 22 + 8 * 6);
    }

    private void ofManyChains() {
        check.topic("promise 28, chains(), 60 at most");
        for (int anchors = 0; anchors <= 20; anchors += 5) {
            int count = anchors;
            digest(anchors + " anchors", () -> {
                SignetRoom room = Rooms.circle(20);
                for (int letter = 0; letter < count; letter++) {
                    room.anchor(letter, true);
                }
                return room;
            }, true);
        }
    }

    private void ofLadders() {
        check.topic("promise 28, of ladders");
        for (int length = 1; length <= 8; length++) {
            int asked = length;
            digest("length " + length, () -> Rooms.longLadder(asked), true);
        }
    }

    /** The digest rests on what is, not on what was when it was asked before. */
    private void afterEachCall() {
        check.topic("promise 28, after each call that changes something");
        SignetRoom room = Rooms.ladder();
        Rooms.addList(room, 1, 50, 300, 1, 0);
        Trial.RoomCall[] calls = {
            each -> each.letter(1, 1, 0, 9), each -> each.times(4, 1, 400), each -> each.master(4, true, 3),
            each -> each.good(4, 6, 1), each -> each.sign(4, 0), each -> each.anchor(4, true),
            each -> each.list(11, 60, 400), each -> each.call(1, 2), each -> each.signList(1, 1),
            each -> each.strict(true) ? 1 : 0, each -> each.anchor(0, false),
        };
        for (int count = 1; count <= calls.length; count++) {
            long before = room.digest();
            calls[count - 1].on(room);
            int asked = count;
            long due = unwrapped(valuesOf(() -> after(calls, asked))).longValue();
            check.same("after call " + count, room.digest(), due);
            check.same("another one than before call " + count, before != due, true);
        }
    }

    private static SignetRoom after(Trial.RoomCall[] calls, int count) {
        SignetRoom room = Rooms.ladder();
        Rooms.addList(room, 1, 50, 300, 1, 0);
        for (int call = 0; call < count; call++) {
            calls[call].on(room);
        }
        return room;
    }

    private void changesNothing() {
        check.topic("promise 28, nothing is changed");
        for (Trial trial : new Trial[] {Trial.empty(check), Trial.middle(check), Trial.full(check)}) {
            trial.answersTheSame("digest", SignetRoom::digest);
        }
    }

    /** An object is used for 512 calls: the last one is as good as the first one. */
    private void asTheLastCall() {
        check.topic("the 512th call");
        SignetRoom room = new SignetRoom();
        room.list(1, 0, 0);
        for (int call = 2; call <= 511; call++) {
            room.call(0, call % 31);
        }
        int set = 0;
        for (int call = 2; call <= 511; call++) {
            set ^= 1 << call % 31;
        }
        int print = Check.print(19, 1, 0, 0, set % 997);
        long due = unwrapped(List.of(0, 0, 1, 0, 1, 0, 0, set, 0, print)).longValue();
        check.same("digest", room.digest(), due);
    }

    private void bothSigns() {
        check.topic("promise 28, a 64-bit integer, below 0 and above");
        check.same("some were below 0", cameBelowZero, true);
        check.same("some were above 0", cameAboveZero, true);
    }
}
