/** Term 1: each number is tried wherever a NAME is asked for, and which NAME is UNDER which. */
public final class NameTest {
    private static final int BEFORE = -300;
    private static final int BEHIND = 12400;
    private static final int CALLS = 400;

    private interface Naming {
        long on(SignetRoom room, int name);
    }

    private final Check check = new Check();

    public static void main(String[] args) {
        NameTest test = new NameTest();
        test.subject();
        test.issuer();
        test.issuerOfList();
        test.bound();
        test.isOfName();
        test.isUnderName();
        test.isUnderOther();
        test.everythingIsUnderZero();
        test.under();
        test.check.end();
    }

    private static boolean isName(int number) {
        return Integer.toString(number).matches("[1-9]{1,4}");
    }

    /** Tries each number on a room that has no letter but one, so that every call is its second one. */
    private void namesAlone(String what, boolean isZeroFit, Naming naming) {
        check.topic("term 1, " + what);
        for (int number = BEFORE; number <= BEHIND; number++) {
            int asked = number;
            SignetRoom room = new SignetRoom();
            room.letter(1, 1, 0, 0);
            String outcome = Check.outcome(() -> naming.on(room, asked));
            boolean isFit = isName(number) || isZeroFit && number == 0;
            String due = isFit ? Long.toString(number) : "IllegalArgumentException";
            check.sameText(what + " " + number, outcome, due);
        }
    }

    private void subject() {
        namesAlone("SUBJECT", false, (room, name) -> room.ofLetter(room.letter(name, 1, 0, 0), 0));
    }

    private void issuer() {
        namesAlone("ISSUER", false, (room, name) -> room.ofLetter(room.letter(1, name, 0, 0), 1));
    }

    private void issuerOfList() {
        namesAlone("ISSUER of a LIST", false, (room, name) -> room.ofList(room.list(name, 0, 0), 0));
    }

    private void bound() {
        namesAlone("BOUND", true, (room, name) -> room.good(0, 15, name) < 0 ? -1 : room.ofLetter(0, 9));
    }

    private void isOfName() {
        namesAlone("name of isOf", false, (room, name) -> room.isOf(name, 0, 0, 0) ? -1 : name);
    }

    private void isUnderName() {
        namesAlone("name of isUnder", false, (room, name) -> room.isUnder(name, name) ? name : -1);
    }

    private void isUnderOther() {
        namesAlone("other of isUnder", true, NameTest::otherOfIsUnder);
    }

    private static long otherOfIsUnder(SignetRoom room, int name) {
        room.isUnder(1, name);
        return name;
    }

    private void everythingIsUnderZero() {
        check.topic("term 1, of the NAMES 0 all are UNDER");
        SignetRoom room = new SignetRoom();
        int calls = 0;
        for (int name = 1; name <= 9999; name++) {
            if (isName(name)) {
                room = calls++ % CALLS == 0 ? new SignetRoom() : room;
                check.same(name + " under 0", room.isUnder(name, 0), true);
            }
        }
        check.same("names", calls, 9 + 81 + 729 + 6561);
    }

    /** All pairs of the names that have the digits 1, 2 and 9 only. */
    private void under() {
        check.topic("term 1, a NAME is UNDER another one, if it is that, or its PARENT is UNDER that");
        SignetRoom room = new SignetRoom();
        int calls = 0;
        for (int name = 1; name <= 9999; name++) {
            for (int other = 1; other <= 9999 && isOf129(name); other++) {
                if (isOf129(other)) {
                    room = calls++ % CALLS == 0 ? new SignetRoom() : room;
                    boolean due = Integer.toString(name).startsWith(Integer.toString(other));
                    check.same(name + " under " + other, room.isUnder(name, other), due);
                }
            }
        }
        check.same("pairs", calls, 120 * 120);
    }

    private static boolean isOf129(int number) {
        for (int rest = number; rest > 0; rest /= 10) {
            int digit = rest % 10;
            if (digit != 1 && digit != 2 && digit != 9) {
                return false;
            }
        }
        return number > 0;
    }
}
