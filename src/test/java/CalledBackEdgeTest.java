/** Term 3, CALLED BACK: which LIST is the one that counts, what it says, and what a STRICT room adds. */
public final class CalledBackEdgeTest {
    private final Check check = new Check();

    public static void main(String[] args) {
        CalledBackEdgeTest test = new CalledBackEdgeTest();
        test.eachPlace();
        test.everySerial();
        test.itsIssuer();
        test.keyOfTheLetterBehind();
        test.keyOfOneOfTwoBehind();
        test.sealThatIsNotRight();
        test.sealZero();
        test.atNotAboveTime();
        test.atZeroAndLast();
        test.greatestAt();
        test.greatestNumberOfSeveral();
        test.otherListsDoNotCount();
        test.nextDoesNotCountIfNotStrict();
        test.strictWithoutList();
        test.strictAboveNext();
        test.strictNextOfTheLatest();
        test.strictHasItsSerial();
        test.strictAndBack();
        test.anchorNever();
        test.anchorBetweenNever();
        test.eighthList();
        test.holdsToWithLists();
        test.check.end();
    }

    /** The verdict on letter 0, called back or not. */
    private void calledBack(String what, SignetRoom room, int time, boolean due) {
        check.same(what + ": verdict", room.verdict(0, time, 0), due ? 7 : 0);
        check.same(what + ": flawAt", room.flawAt(0, time, 0), due ? 0 : -1);
        check.same(what + ": holdsTo is NONE", room.holdsTo(0, time, 0) == -1, due);
    }

    private void eachPlace() {
        check.topic("FLAW 7 at each place but the ANCHOR's");
        for (int place = 0; place < 6; place++) {
            SignetRoom room = Rooms.longLadder(6);
            // Nobody is behind the last letter; its list is signed by its own issuer's key.
            Rooms.addList(room, place + 2, 500, 500, place, place + 1);
            int due = place < 5 ? 7 : 0;
            check.same("verdict, one below", room.verdict(0, 499, 0), 0);
            check.same("verdict", room.verdict(0, 500, 0), due);
            check.same("flawAt", room.flawAt(0, 500, 0), due == 7 ? place : -1);
            check.same("verdict on the next one", room.verdict(Math.min(place + 1, 5), 500, 0), 0);
        }
    }

    private void everySerial() {
        check.topic("it has its SERIAL, 0 to 30");
        for (int serial = 0; serial <= 30; serial++) {
            SignetRoom room = new SignetRoom();
            room.letter(1, 2, 1, serial);
            room.sign(0, 2);
            room.letter(2, 9, 2, serial);
            room.master(1, true, 0);
            room.anchor(1, true);
            int list = Rooms.addList(room, 2, 0, 999, serial, 2);
            calledBack("serial " + serial + " on", room, 0, true);
            for (int other = 0; other <= 30; other++) {
                room.call(list, other);
            }
            room.signList(list, 2);
            calledBack("all but " + serial + " on", room, 0, false);
            room.call(list, serial);
            room.signList(list, 2);
            calledBack("all on", room, 0, true);
        }
    }

    private void itsIssuer() {
        check.topic("the LISTS with its ISSUER");
        for (int issuer : new int[] {12, 1, 121, 13, 2, 21, 5}) {
            SignetRoom room = new SignetRoom();
            Rooms.add(room, 5, 12, 1, 5, 2);
            Rooms.add(room, 12, 13, 2, 5, 3);
            room.anchor(1, true);
            Rooms.addList(room, issuer, 0, 999, 0, 2);
            calledBack("issuer " + issuer, room, 0, issuer == 12);
        }
    }

    private void keyOfTheLetterBehind() {
        check.topic("RIGHT for their PRINT by the KEY of the LETTER behind it");
        for (int key = 0; key <= 15; key++) {
            SignetRoom room = new SignetRoom();
            Rooms.add(room, 1, 2, 4, 5, key);
            Rooms.add(room, 2, 2, key, 5, key);
            room.anchor(1, true);
            int list = Rooms.addList(room, 2, 0, 999, 0, key);
            calledBack("by the key " + key, room, 0, true);
            for (int other = 0; other <= 15; other++) {
                room.signList(list, other);
                calledBack("by the key " + other, room, 0, other == key);
            }
        }
    }

    /** Letter 0 has the print 0, so that both anchors back it, each with a key of its own. */
    private void keyOfOneOfTwoBehind() {
        check.topic("in a CHAIN, by the KEY of the LETTER that is behind it there");
        SignetRoom room = new SignetRoom();
        room.letter(1, 2, 3, 0);
        Rooms.setPrintZero(room, 0);
        Rooms.add(room, 2, 9, 5, 5, 9);
        Rooms.add(room, 2, 9, 6, 5, 9);
        room.anchor(1, true);
        room.anchor(2, true);
        check.sameText("by the first", Rooms.chainText(room, 0, 0, 0), "0.1.");
        Rooms.addList(room, 2, 0, 999, 0, 5);
        check.sameText("the first called it back", Rooms.chainText(room, 0, 0, 0), "0.2.");
        check.same("verdict", room.verdict(0, 0, 0), 0);
        Rooms.addList(room, 2, 0, 999, 0, 6);
        check.same("both called it back", room.verdict(0, 0, 0), 7);
        check.sameText("the first one is told", Rooms.chainText(room, 0, 0, 0), "0.1.");
        Rooms.addList(room, 2, 0, 999, -1, 5);
        check.sameText("the first does no more", Rooms.chainText(room, 0, 0, 0), "0.1.");
        check.same("verdict", room.verdict(0, 0, 0), 0);
    }

    private void sealThatIsNotRight() {
        check.topic("a LIST with a SEAL that is not RIGHT for its PRINT");
        SignetRoom room = Rooms.longLadder(2);
        room.list(2, 0, 999);
        room.call(0, 0);
        calledBack("never signed", room, 0, false);
        room.signList(0, 1);
        calledBack("signed", room, 0, true);
        room.call(0, 30);
        calledBack("another serial since then", room, 0, false);
        room.call(0, 30);
        calledBack("that one taken off", room, 0, true);
        room.call(0, 0);
        calledBack("its own taken off", room, 0, false);
        room.signList(0, 1);
        calledBack("signed without it", room, 0, false);
    }

    private void sealZero() {
        check.topic("for a LIST's PRINT 0 the SEAL 0 is RIGHT by every KEY");
        int next = 0;
        while (next < 999 && Check.print(19, 2, 0, next, 1) != 0) {
            next++;
        }
        for (int key = 0; key <= 15; key++) {
            SignetRoom room = new SignetRoom();
            Rooms.add(room, 1, 2, 4, 5, key);
            Rooms.add(room, 2, 9, key, 5, 9);
            room.anchor(1, true);
            room.list(2, 0, next);
            room.call(0, 0);
            check.same("print", room.ofList(0, 5), 0);
            calledBack("never signed, key " + key, room, 0, true);
            room.call(0, 30);
            calledBack("another print, key " + key, room, 0, false);
        }
    }

    private void atNotAboveTime() {
        check.topic("with AT not above t");
        SignetRoom room = Rooms.longLadder(2);
        Rooms.addList(room, 2, 500, 500, 0, 1);
        calledBack("one below AT", room, 499, false);
        calledBack("at AT", room, 500, true);
        calledBack("one above AT", room, 501, true);
    }

    private void atZeroAndLast() {
        check.topic("with AT not above t, 0 and 999");
        SignetRoom zero = Rooms.longLadder(2);
        Rooms.addList(zero, 2, 0, 0, 0, 1);
        calledBack("AT 0 at 0", zero, 0, true);
        calledBack("AT 0 at 999", zero, 999, true);
        SignetRoom last = Rooms.longLadder(2);
        Rooms.addList(last, 2, 999, 999, 0, 1);
        calledBack("AT 999 at 0", last, 0, false);
        calledBack("AT 999 at 998", last, 998, false);
        calledBack("AT 999 at 999", last, 999, true);
    }

    private void greatestAt() {
        check.topic("the one with the greatest AT");
        SignetRoom room = Rooms.longLadder(2);
        Rooms.addList(room, 2, 501, 999, -1, 1);
        Rooms.addList(room, 2, 500, 999, 0, 1);
        calledBack("of 500", room, 500, true);
        calledBack("of 501, though its number is smaller", room, 501, false);
        Rooms.addList(room, 2, 502, 999, 0, 1);
        calledBack("of 501", room, 501, false);
        calledBack("of 502", room, 502, true);
        Rooms.addList(room, 2, 0, 999, -1, 1);
        calledBack("of 502, though its number is smaller", room, 502, true);
        calledBack("of 0", room, 499, false);
    }

    private void greatestNumberOfSeveral() {
        check.topic("of several the greatest number");
        SignetRoom room = Rooms.longLadder(2);
        for (int list = 0; list < 8; list++) {
            boolean isOn = list % 2 == 0;
            Rooms.addList(room, 2, 500, 999 - list, isOn ? 0 : 1, 1);
            calledBack("of " + list, room, 500, isOn);
            calledBack("ahead of them", room, 499, false);
        }
    }

    private void otherListsDoNotCount() {
        check.topic("of the LISTS that are so, later ones of another ISSUER or KEY do not count");
        SignetRoom room = Rooms.longLadder(2);
        Rooms.addList(room, 2, 100, 999, 0, 1);
        Rooms.addList(room, 3, 200, 999, -1, 1);
        calledBack("another issuer", room, 500, true);
        int list = Rooms.addList(room, 2, 300, 999, -1, 2);
        calledBack("another key", room, 500, true);
        room.signList(list, 1);
        calledBack("its key", room, 500, false);
        room.call(list, 7);
        calledBack("an old seal", room, 500, true);
    }

    private void nextDoesNotCountIfNotStrict() {
        check.topic("only if the room is STRICT, t is above the NEXT");
        SignetRoom room = Rooms.longLadder(2);
        calledBack("without a list", room, 0, false);
        Rooms.addList(room, 2, 100, 200, 7, 1);
        calledBack("one above NEXT", room, 201, false);
        calledBack("at 999", room, 999, false);
        Rooms.addList(room, 2, 100, 200, 0, 1);
        calledBack("on it, one above NEXT", room, 201, true);
        calledBack("on it, at 999", room, 999, true);
    }

    private void strictWithoutList() {
        check.topic("STRICT, if there is none");
        SignetRoom room = Rooms.longLadder(2);
        room.strict(true);
        calledBack("no list at all", room, 0, true);
        Rooms.addList(room, 3, 0, 999, 7, 1);
        calledBack("of another issuer", room, 500, true);
        int list = Rooms.addList(room, 2, 500, 999, 7, 2);
        calledBack("by another key", room, 500, true);
        room.signList(list, 1);
        calledBack("one below AT", room, 499, true);
        calledBack("at AT", room, 500, false);
        room.call(list, 8);
        calledBack("an old seal", room, 500, true);
    }

    private void strictAboveNext() {
        check.topic("STRICT, or t is above the NEXT of that one");
        for (int next : new int[] {500, 501, 998, 999}) {
            SignetRoom room = Rooms.longLadder(2);
            room.strict(true);
            Rooms.addList(room, 2, 500, next, -1, 1);
            calledBack("at AT", room, 500, false);
            calledBack("at NEXT", room, next, false);
            calledBack("one above NEXT", room, Math.min(next + 1, 999), next < 999);
            check.same("holdsTo", room.holdsTo(0, 500, 0), next);
        }
    }

    private void strictNextOfTheLatest() {
        check.topic("STRICT, the NEXT of that one, not of others");
        SignetRoom room = Rooms.longLadder(2);
        room.strict(true);
        Rooms.addList(room, 2, 0, 999, -1, 1);
        Rooms.addList(room, 2, 500, 600, -1, 1);
        calledBack("at NEXT of the latest", room, 600, false);
        calledBack("above it, not above that of the other", room, 601, true);
        SignetRoom other = Rooms.longLadder(2);
        other.strict(true);
        Rooms.addList(other, 2, 0, 100, -1, 1);
        Rooms.addList(other, 2, 101, 999, -1, 1);
        calledBack("at NEXT of the first", other, 100, false);
        calledBack("above NEXT of the first", other, 101, false);
        check.same("holdsTo", other.holdsTo(0, 0, 0), 999);
    }

    private void strictHasItsSerial() {
        check.topic("STRICT, that one has its SERIAL");
        SignetRoom room = Rooms.longLadder(2);
        room.strict(true);
        Rooms.addList(room, 2, 500, 600, 0, 1);
        calledBack("at AT", room, 500, true);
        calledBack("at NEXT", room, 600, true);
        calledBack("above NEXT", room, 601, true);
    }

    private void strictAndBack() {
        check.topic("STRICT from now on, and no more");
        SignetRoom room = Rooms.longLadder(2);
        calledBack("at first", room, 0, false);
        room.strict(true);
        calledBack("strict", room, 0, true);
        room.strict(true);
        calledBack("strict again", room, 0, true);
        room.strict(false);
        calledBack("not strict", room, 0, false);
    }

    private void anchorNever() {
        check.topic("an ANCHOR, never");
        SignetRoom room = Rooms.circle(1);
        room.anchor(0, true);
        Rooms.addList(room, 1, 0, 0, 0, 0);
        calledBack("on its own list", room, 500, false);
        room.strict(true);
        calledBack("strict, above NEXT", room, 500, false);
        SignetRoom bare = Rooms.circle(1);
        bare.anchor(0, true);
        bare.strict(true);
        calledBack("strict, without a list", bare, 0, false);
    }

    /** Letter 1 is between in 0.1.2, and when it is an anchor, the last one in 0.1. */
    private void anchorBetweenNever() {
        check.topic("an ANCHOR, never, though another one is behind it");
        SignetRoom room = Rooms.longLadder(3);
        Rooms.addList(room, 3, 0, 999, 1, 2);
        check.same("no anchor, called back", room.verdict(0, 0, 0), 7);
        check.same("its place", room.flawAt(0, 0, 0), 1);
        room.anchor(1, true);
        check.same("an anchor, two chains", room.chains(0), 2);
        check.same("an anchor, not called back", room.verdict(0, 0, 0), 0);
        SignetRoom front = Rooms.longLadder(2);
        front.anchor(0, true);
        front.strict(true);
        Rooms.addList(front, 2, 0, 999, 0, 1);
        calledBack("in front", front, 0, false);
        check.same("two chains", front.chains(0), 2);
        check.same("no anchor, then 7", front.otherwise(0, 0, 0), 1);
    }

    private void eighthList() {
        check.topic("the last of 8 LISTS");
        SignetRoom room = Rooms.longLadder(2);
        for (int list = 0; list < 7; list++) {
            Rooms.addList(room, 2, 100 + list, 999, -1, 1);
        }
        Rooms.addList(room, 2, 107, 999, 0, 1);
        calledBack("below it", room, 106, false);
        calledBack("at it", room, 107, true);
        check.full("a ninth", () -> room.list(2, 108, 999));
        calledBack("behind it", room, 108, true);
    }

    private void holdsToWithLists() {
        check.topic("promise 25, a list calls back, and a later one does no more");
        SignetRoom room = Rooms.longLadder(2);
        Rooms.addList(room, 2, 1, 1, 0, 1);
        check.same("from 0", room.holdsTo(0, 0, 0), 0);
        Rooms.addList(room, 2, 999, 999, -1, 1);
        check.same("at 998", room.holdsTo(0, 998, 0), -1);
        check.same("at 999", room.holdsTo(0, 999, 0), 999);
        Rooms.addList(room, 2, 1, 1, -1, 1);
        check.same("from 0, a later list of the same time", room.holdsTo(0, 0, 0), 999);
    }
}
