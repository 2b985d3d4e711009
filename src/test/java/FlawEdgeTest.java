/** Term 3 and promises 20 and 22: the FLAWS 1 to 6, at each place of a CHAIN, and which is the first. */
public final class FlawEdgeTest {
    private static final int LONGEST = 6;

    private final Check check = new Check();

    public static void main(String[] args) {
        FlawEdgeTest test = new FlawEdgeTest();
        test.belowFrom();
        test.aboveTo();
        test.notInItsUses();
        test.noMaster();
        test.noMasterInFront();
        test.reachTooSmall();
        test.reachInFront();
        test.notUnderItsBound();
        test.boundIsTheSubject();
        test.boundBehindDoesNotCount();
        test.boundZero();
        test.firstOfSeveral();
        test.firstOfSeveralInFront();
        test.firstOfSeveralOfTheAnchor();
        test.fromTheFirstPlaceOn();
        test.check.end();
    }

    /** The verdict on letter 0 and the place of its flaw, NONE if it holds. */
    private void decided(String what, SignetRoom room, int time, int use, int verdict, int place) {
        check.same(what + ": verdict", room.verdict(0, time, use), verdict);
        check.same(what + ": flawAt", room.flawAt(0, time, use), verdict == 0 ? -1 : place);
    }

    private static void signAgain(SignetRoom room, int letter) {
        room.sign(letter, letter + 1);
    }

    private void belowFrom() {
        check.topic("FLAW 1, t is below FROM");
        for (int place = 0; place < LONGEST; place++) {
            SignetRoom room = Rooms.longLadder(LONGEST);
            room.times(place, 500, 999);
            signAgain(room, place);
            decided("at 0", room, 0, 0, 1, place);
            decided("one below", room, 499, 0, 1, place);
            decided("at FROM", room, 500, 0, 0, -1);
            decided("one above", room, 501, 0, 0, -1);
        }
    }

    private void aboveTo() {
        check.topic("FLAW 2, t is above TO");
        for (int place = 0; place < LONGEST; place++) {
            SignetRoom room = Rooms.longLadder(LONGEST);
            room.times(place, 0, 500);
            signAgain(room, place);
            decided("one below", room, 499, 0, 0, -1);
            decided("at TO", room, 500, 0, 0, -1);
            decided("one above", room, 501, 0, 2, place);
            decided("at 999", room, 999, 0, 2, place);
        }
    }

    private void notInItsUses() {
        check.topic("FLAW 3, u is not in its USES");
        for (int place = 0; place < LONGEST; place++) {
            for (int uses = 0; uses <= 15; uses++) {
                SignetRoom room = Rooms.longLadder(LONGEST);
                room.good(place, uses, 0);
                signAgain(room, place);
                String bits = "000" + Integer.toBinaryString(uses);
                for (int use = 0; use <= 3; use++) {
                    boolean isIn = bits.charAt(bits.length() - 1 - use) == '1';
                    decided("uses " + uses + ", use " + use, room, 0, use, isIn ? 0 : 3, place);
                }
            }
        }
    }

    private void noMaster() {
        check.topic("FLAW 4, i is above 0, and it is no MASTER");
        for (int place = 1; place < LONGEST; place++) {
            SignetRoom room = Rooms.longLadder(LONGEST);
            room.master(place, false, 5);
            signAgain(room, place);
            decided("no master at " + place, room, 0, 0, 4, place);
            room.master(place, true, 5);
            signAgain(room, place);
            decided("a master at " + place, room, 0, 0, 0, -1);
        }
    }

    private void noMasterInFront() {
        check.topic("FLAW 4, not at the place 0");
        for (int length = 1; length <= LONGEST; length++) {
            SignetRoom room = Rooms.longLadder(length);
            room.master(0, false, 0);
            signAgain(room, 0);
            decided("length " + length, room, 0, 0, 0, -1);
        }
    }

    private void reachTooSmall() {
        check.topic("FLAW 5, i is above 0, and its REACH is less than i - 1");
        for (int place = 1; place < LONGEST; place++) {
            for (int reach = 0; reach <= 5; reach++) {
                SignetRoom room = Rooms.longLadder(LONGEST);
                room.master(place, true, reach);
                signAgain(room, place);
                int due = reach < place - 1 ? 5 : 0;
                decided("reach " + reach + " at " + place, room, 0, 0, due, place);
            }
        }
    }

    private void reachInFront() {
        check.topic("FLAW 5, every REACH is the least that does");
        SignetRoom room = Rooms.longLadder(LONGEST);
        for (int place = 0; place < LONGEST; place++) {
            room.master(place, true, Math.max(0, place - 1));
            signAgain(room, place);
        }
        decided("0, 0, 1, 2, 3, 4", room, 0, 0, 0, -1);
        room.master(5, true, 3);
        decided("0, 0, 1, 2, 3, 3", room, 0, 0, 5, 5);
    }

    /** Six letters with the subjects 11 to 16, but for the one at that place, which has 2. */
    private static SignetRoom strangerAt(int stranger) {
        SignetRoom room = new SignetRoom();
        for (int place = 0; place < LONGEST; place++) {
            int subject = place == stranger ? 2 : 11 + place;
            int issuer = place + 1 == stranger ? 2 : 12 + place;
            Rooms.add(room, subject, issuer, place, 5, place + 1);
        }
        room.anchor(LONGEST - 1, true);
        return room;
    }

    private void notUnderItsBound() {
        check.topic("FLAW 6, the SUBJECT of a LETTER at a smaller place is not UNDER its BOUND");
        for (int stranger = 0; stranger < LONGEST; stranger++) {
            for (int place = 0; place < LONGEST; place++) {
                SignetRoom room = strangerAt(stranger);
                decided("without a bound", room, 0, 0, 0, -1);
                room.good(place, 15, 1);
                signAgain(room, place);
                int due = stranger < place ? 6 : 0;
                decided("stranger at " + stranger + ", bound at " + place, room, 0, 0, due, place);
            }
        }
    }

    private void boundIsTheSubject() {
        check.topic("FLAW 6, a NAME is UNDER itself, and not UNDER its child");
        for (int[] pair : new int[][] {{12, 12, 0}, {12, 1, 0}, {12, 0, 0}, {12, 121, 6}, {12, 13, 6}, {12, 2, 6}}) {
            SignetRoom room = new SignetRoom();
            Rooms.add(room, pair[0], 9, 1, Rooms.NO_MASTER, 2);
            Rooms.add(room, 9, 9, 2, 0, 2);
            room.anchor(1, true);
            room.good(1, 15, pair[1]);
            decided(pair[0] + " for the bound " + pair[1], room, 0, 0, pair[2], 1);
        }
    }

    private void boundBehindDoesNotCount() {
        check.topic("FLAW 6, its own SUBJECT and those behind it are free");
        SignetRoom room = new SignetRoom();
        Rooms.add(room, 11, 2, 0, 5, 1);
        Rooms.add(room, 2, 3, 1, 5, 2);
        Rooms.add(room, 3, 9, 2, 5, 9);
        room.anchor(2, true);
        room.good(1, 15, 11);
        room.sign(1, 2);
        decided("11 alone is at a smaller place", room, 0, 0, 0, -1);
        room.good(0, 15, 9);
        room.sign(0, 1);
        decided("the first one has a bound without any", room, 0, 0, 0, -1);
        room.good(2, 15, 11);
        decided("2 is not under 11", room, 0, 0, 6, 2);
    }

    private void boundZero() {
        check.topic("FLAW 6, all are UNDER 0");
        for (int subject : new int[] {1, 9, 11, 99, 999, 1111, 9999}) {
            SignetRoom room = new SignetRoom();
            Rooms.add(room, subject, 9, 1, Rooms.NO_MASTER, 2);
            Rooms.add(room, 9, 9, 2, 0, 2);
            room.anchor(1, true);
            decided(subject + " for the bound 0", room, 0, 0, 0, -1);
        }
    }

    /** Gives a letter of a ladder the flaws of a set, as they are at the time 500 for the use 1. */
    private static void spoil(SignetRoom room, int letter, int flaws) {
        boolean isEarly = has(flaws, 1);
        boolean isLate = has(flaws, 2);
        room.times(letter, isEarly ? 501 : 0, isLate ? 499 : 999);
        room.good(letter, has(flaws, 3) ? 13 : 2, has(flaws, 6) ? 99 : 0);
        room.master(letter, !has(flaws, 4), has(flaws, 5) ? 0 : 5);
        signAgain(room, letter);
        if (has(flaws, 7)) {
            Rooms.addList(room, room.ofLetter(letter, 1), 500, 500, letter, letter + 1);
        }
    }

    private static boolean has(int flaws, int flaw) {
        return (flaws >> flaw & 1) == 1;
    }

    /** The first flaw of a set of which only some can be at the letter's place, 0 without one. */
    private static int firstOf(int flaws, int[] possible) {
        for (int flaw : possible) {
            if (has(flaws, flaw)) {
                return flaw;
            }
        }
        return 0;
    }

    private void firstOfEachSet(int letter, int... possible) {
        for (int flaws = 0; flaws < 256; flaws += 2) {
            // No time is both below FROM and above TO.
            if (!has(flaws, 1) || !has(flaws, 2)) {
                SignetRoom room = Rooms.longLadder(4);
                spoil(room, letter, flaws);
                decided("flaws " + Integer.toBinaryString(flaws), room, 500, 1, firstOf(flaws, possible), letter);
            }
        }
    }

    private void firstOfSeveral() {
        check.topic("It has the first of these that is so, above the place 0");
        firstOfEachSet(2, 1, 2, 3, 4, 5, 6, 7);
    }

    private void firstOfSeveralInFront() {
        check.topic("It has the first of these that is so, at the place 0");
        firstOfEachSet(0, 1, 2, 3, 7);
    }

    private void firstOfSeveralOfTheAnchor() {
        check.topic("It has the first of these that is so, ANCHORS too");
        firstOfEachSet(3, 1, 2, 3, 4, 5, 6);
    }

    /** Two letters have a flaw each: the one at the smaller place is told, though its flaw is later. */
    private void fromTheFirstPlaceOn() {
        check.topic("looked at from the first one on");
        for (int ahead = 0; ahead < 4; ahead++) {
            for (int behind = ahead + 1; behind < 4; behind++) {
                for (int other = 1; other <= 6; other++) {
                    SignetRoom room = Rooms.longLadder(5);
                    spoil(room, ahead, 1 << 7);
                    spoil(room, behind, 1 << other);
                    decided("7 at " + ahead + ", " + other + " at " + behind, room, 500, 1, 7, ahead);
                }
            }
        }
        SignetRoom room = Rooms.longLadder(LONGEST);
        for (int place = 5; place >= 0; place--) {
            room.good(place, 14, 0);
            signAgain(room, place);
            decided("3 from " + place + " on", room, 0, 0, 3, place);
        }
    }
}
