/** Rooms that several tests begin with. */
final class Rooms {
    static final int NO_MASTER = -1;

    private Rooms() {
    }

    /** Adds a letter whose serial is its number, a master unless reach is below 0, and signs it. */
    static int add(SignetRoom room, int subject, int issuer, int key, int reach, int signer) {
        int letter = room.letter(subject, issuer, key, room.many(0));
        if (reach >= 0) {
            room.master(letter, true, reach);
        }
        room.sign(letter, signer);
        return letter;
    }

    /** Letter 0, an anchor, backs 1, that backs 2, that backs 3, which is no master. */
    static SignetRoom ladder() {
        SignetRoom room = new SignetRoom();
        add(room, 1, 1, 0, 5, 0);
        add(room, 11, 1, 1, 5, 0);
        add(room, 111, 11, 2, 5, 1);
        add(room, 1111, 111, 3, NO_MASTER, 2);
        room.anchor(0, true);
        return room;
    }

    /** As many letters as that, masters, each of which backs each one, itself too; no anchor. */
    static SignetRoom circle(int count) {
        SignetRoom room = new SignetRoom();
        for (int letter = 0; letter < count; letter++) {
            add(room, 1, 1, 0, 5, 0);
        }
        return room;
    }

    /** A ladder of so many letters; the last one is an anchor. */
    static SignetRoom longLadder(int count) {
        SignetRoom room = new SignetRoom();
        for (int letter = 0; letter < count; letter++) {
            add(room, 1 + letter, 2 + letter, letter, 5, letter + 1);
        }
        room.anchor(count - 1, true);
        return room;
    }

    /** Sets the times of a letter so that its print is 0. */
    static void setPrintZero(SignetRoom room, int letter) {
        int subject = room.ofLetter(letter, 0);
        int issuer = room.ofLetter(letter, 1);
        int key = room.ofLetter(letter, 2);
        int serial = room.ofLetter(letter, 3);
        int master = room.ofLetter(letter, 6);
        int reach = room.ofLetter(letter, 7);
        int uses = room.ofLetter(letter, 8);
        int bound = room.ofLetter(letter, 9);
        int to = 0;
        while (to < 999 && Check.print(17, subject, issuer, key, serial, 0, to, master, reach, uses, bound) != 0) {
            to++;
        }
        room.times(letter, 0, to);
    }

    /** Adds a list with one serial, or with none if that is below 0, and signs it. */
    static int addList(SignetRoom room, int issuer, int at, int next, int serial, int key) {
        int list = room.list(issuer, at, next);
        if (serial >= 0) {
            room.call(list, serial);
        }
        room.signList(list, key);
        return list;
    }

    /** The whole chain that decides, its letters' numbers ahead of a point each. */
    static String chainText(SignetRoom room, int letter, int time, int use) {
        StringBuilder text = new StringBuilder();
        int place = 0;
        int member = room.chain(letter, time, use, 0);
        while (member != -1 && place < 7) {
            text.append(member).append('.');
            place++;
            member = room.chain(letter, time, use, place);
        }
        return text.toString();
    }
}
