import java.util.ArrayList;
import java.util.List;

/**
 * A kind of room to try calls in that change nothing, and all that can be asked of it. The
 * questions come in parts, each part on an object of its own: it is good for 512 calls only.
 */
final class Trial {
    interface Maker {
        SignetRoom make();
    }

    interface RoomCall {
        long on(SignetRoom room);
    }

    private interface Question {
        Object ask(SignetRoom room);
    }

    private static final int PART = 90;
    private static final int[][] MOMENTS = {{0, 0}, {100, 2}, {200, 1}, {500, 0}, {999, 3}};

    private final Check check;
    private final String name;
    private final Maker maker;
    private final int letters;
    private final int lists;
    private final List<Question> questions = new ArrayList<>();

    private Trial(Check check, String name, Maker maker) {
        this.check = check;
        this.name = name;
        this.maker = maker;
        letters = maker.make().many(0);
        lists = maker.make().many(2);
        askOfTheRoom();
        askOfLettersAndLists();
        for (int[] moment : MOMENTS) {
            askOfMoment(moment[0], moment[1]);
        }
    }

    static Trial empty(Check check) {
        return new Trial(check, "an empty room", SignetRoom::new);
    }

    static Trial middle(Check check) {
        return new Trial(check, "a room", Trial::makeMiddle);
    }

    static Trial full(Check check) {
        return new Trial(check, "a full room", Trial::makeFull);
    }

    /** 5 letters of 20 and 3 lists of 8, strict, with a verdict that changes at 100, 200 and 500. */
    private static SignetRoom makeMiddle() {
        SignetRoom room = Rooms.ladder();
        Rooms.add(room, 11, 1, 7, 0, 0);
        room.times(4, 100, 500);
        room.sign(4, 0);
        Rooms.addList(room, 1, 50, 400, 4, 0);
        Rooms.addList(room, 11, 100, 200, 30, 1);
        Rooms.addList(room, 111, 0, 999, -1, 2);
        room.strict(true);
        return room;
    }

    /** Five ladders of four letters and eight lists. */
    private static SignetRoom makeFull() {
        SignetRoom room = new SignetRoom();
        for (int ladder = 1; ladder <= 5; ladder++) {
            int root = Rooms.add(room, ladder, ladder, ladder, 5, ladder);
            Rooms.add(room, ladder * 11, ladder, ladder + 1, 4, ladder);
            Rooms.add(room, ladder * 111, ladder * 11, ladder + 2, ladder - 1, ladder + 1);
            Rooms.add(room, ladder * 1111, ladder * 111, ladder + 3, Rooms.NO_MASTER, ladder + 2);
            room.anchor(root, ladder != 4);
        }
        for (int list = 0; list < 8; list++) {
            Rooms.addList(room, 1 + list % 5, list * 60, 500, 4 * list + 1, 1 + list % 5);
        }
        return room;
    }

    /** Numbers beside the letters: there is none with such a number. */
    int[] noLetters() {
        return Wrong.beside(letters - 1);
    }

    int[] noLists() {
        return Wrong.beside(lists - 1);
    }

    int lastLetter() {
        return letters - 1;
    }

    int lastList() {
        return lists - 1;
    }

    void illegal(String call, RoomCall roomCall) {
        answers(call, roomCall, "IllegalArgumentException");
    }

    void outside(String call, RoomCall roomCall) {
        answers(call, roomCall, "IndexOutOfBoundsException");
    }

    void noRoom(String call, RoomCall roomCall) {
        answers(call, roomCall, "IllegalStateException");
    }

    /** The call answers on every object of this kind the same, and changes nothing. */
    void answersTheSame(String call, RoomCall roomCall) {
        answers(call, roomCall, Long.toString(roomCall.on(maker.make())));
    }

    /** The call answers that, or throws that, and all that can be asked is the same then. */
    void answers(String call, RoomCall roomCall, String due) {
        String what = call + " in " + name;
        for (int from = 0; from < questions.size(); from += PART) {
            List<Question> part = questions.subList(from, Math.min(from + PART, questions.size()));
            SignetRoom room = maker.make();
            String before = answersOf(room, part);
            check.sameText(what, Check.outcome(() -> roomCall.on(room)), due);
            check.sameText("all questions after " + what, answersOf(room, part), before);
        }
        SignetRoom room = maker.make();
        check.sameText(what, Check.outcome(() -> roomCall.on(room)), due);
        nextOnesAreNew(what, room);
    }

    /** A call that was refused leaves nothing to the letter and the list that come next. */
    private void nextOnesAreNew(String what, SignetRoom room) {
        String fullRoom = "IllegalStateException";
        String letter = letters == 20 ? fullRoom : Integer.toString(letters);
        String list = lists == 8 ? fullRoom : Integer.toString(lists);
        check.sameText("the next letter after " + what, Check.outcome(() -> room.letter(3, 4, 5, 6)), letter);
        check.sameText("the next list after " + what, Check.outcome(() -> room.list(3, 4, 5)), list);
        if (letters < 20) {
            int[] due = {3, 4, 5, 6, 0, 999, 0, 0, 15, 0, 0, Check.print(17, 3, 4, 5, 6, 0, 999, 0, 0, 15, 0), 0};
            for (int property = 0; property < due.length; property++) {
                check.same("the next letter after " + what, room.ofLetter(letters, property), due[property]);
            }
        }
        if (lists < 8) {
            int[] due = {3, 4, 5, 0, 0, Check.print(19, 3, 4, 5, 0)};
            for (int property = 0; property < due.length; property++) {
                check.same("the next list after " + what, room.ofList(lists, property), due[property]);
            }
        }
    }

    private static String answersOf(SignetRoom room, List<Question> part) {
        StringBuilder text = new StringBuilder();
        for (Question question : part) {
            text.append(question.ask(room)).append(' ');
        }
        return text.toString();
    }

    private void askOfTheRoom() {
        questions.add(SignetRoom::digest);
        questions.add(Trial::isStrict);
        for (int what = 0; what <= 3; what++) {
            int asked = what;
            questions.add(room -> room.many(asked));
        }
    }

    private static boolean isStrict(SignetRoom room) {
        boolean was = room.strict(false);
        room.strict(was);
        return was;
    }

    private void askOfLettersAndLists() {
        for (int number = 0; number < letters; number++) {
            int letter = number;
            questions.add(room -> room.chains(letter));
            for (int what = 0; what <= 12; what++) {
                int asked = what;
                questions.add(room -> room.ofLetter(letter, asked));
            }
            for (int second = 0; second < letters; second++) {
                int other = second;
                questions.add(room -> room.backs(letter, other));
            }
        }
        for (int number = 0; number < lists; number++) {
            int list = number;
            for (int what = 0; what <= 5; what++) {
                int asked = what;
                questions.add(room -> room.ofList(list, asked));
            }
        }
    }

    private void askOfMoment(int time, int use) {
        questions.add(room -> room.meanChain(time, use));
        for (int number = 0; number <= 15; number++) {
            int key = number;
            questions.add(room -> room.stolen(key, time, use));
        }
        for (int number = 0; number < letters; number++) {
            int letter = number;
            int subject = maker.make().ofLetter(letter, 0);
            int key = maker.make().ofLetter(letter, 2);
            questions.add(room -> room.isOf(subject, key, time, use));
            questions.add(room -> room.verdict(letter, time, use));
            questions.add(room -> room.flawAt(letter, time, use));
            questions.add(room -> Rooms.chainText(room, letter, time, use));
            questions.add(room -> room.holdsTo(letter, time, use));
            questions.add(room -> room.otherwise(letter, time, use));
        }
    }
}
