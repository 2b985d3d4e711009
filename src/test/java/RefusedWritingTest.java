/**
 * Promises 2 to 10: each sentence that says when a call is refused, and which exception is thrown
 * if several apply. A refused call changes nothing: all that can be asked is asked before and after.
 */
public final class RefusedWritingTest {
    private final Check check = new Check();
    private final Trial empty = Trial.empty(check);
    private final Trial middle = Trial.middle(check);
    private final Trial full = Trial.full(check);
    private final Trial[] all = {empty, middle, full};
    private final Trial[] written = {middle, full};

    public static void main(String[] args) {
        RefusedWritingTest test = new RefusedWritingTest();
        test.letterArguments();
        test.letterWhenFull();
        test.letterFirstNamed();
        test.timesNoLetter();
        test.timesArguments();
        test.timesFirstNamed();
        test.masterNoLetter();
        test.masterArguments();
        test.masterFirstNamed();
        test.goodNoLetter();
        test.goodArguments();
        test.goodFirstNamed();
        test.signNoLetter();
        test.signArguments();
        test.signFirstNamed();
        test.anchorNoLetter();
        test.listArguments();
        test.listWhenFull();
        test.listFirstNamed();
        test.callNoList();
        test.callArguments();
        test.callFirstNamed();
        test.signListNoList();
        test.signListArguments();
        test.signListFirstNamed();
        test.check.end();
    }

    private void letterArguments() {
        check.topic("promise 2, subject or issuer is no NAME, key is not 0 to 15, or serial is not 0 to 30");
        for (Trial trial : new Trial[] {empty, middle}) {
            for (int wrong : Wrong.NAMES) {
                trial.illegal("letter, subject " + wrong, room -> room.letter(wrong, 1, 0, 0));
                trial.illegal("letter, issuer " + wrong, room -> room.letter(1, wrong, 0, 0));
            }
            for (int wrong : Wrong.KEYS) {
                trial.illegal("letter, key " + wrong, room -> room.letter(1, 1, wrong, 0));
            }
            for (int wrong : Wrong.SERIALS) {
                trial.illegal("letter, serial " + wrong, room -> room.letter(1, 1, 0, wrong));
            }
        }
    }

    private void letterWhenFull() {
        check.topic("promise 2, IllegalStateException if there are 20");
        full.noRoom("letter(1, 1, 0, 0)", room -> room.letter(1, 1, 0, 0));
        full.noRoom("letter(9999, 9999, 15, 30)", room -> room.letter(9999, 9999, 15, 30));
    }

    private void letterFirstNamed() {
        check.topic("promise 2, of several exceptions the one that is named first");
        full.illegal("letter, subject 0", room -> room.letter(0, 1, 0, 0));
        full.illegal("letter, subject 10000", room -> room.letter(10000, 1, 0, 0));
        full.illegal("letter, issuer 0", room -> room.letter(1, 0, 0, 0));
        full.illegal("letter, issuer 10000", room -> room.letter(1, 10000, 0, 0));
        for (int wrong : Wrong.KEYS) {
            full.illegal("letter, key " + wrong, room -> room.letter(1, 1, wrong, 0));
        }
        for (int wrong : Wrong.SERIALS) {
            full.illegal("letter, serial " + wrong, room -> room.letter(1, 1, 0, wrong));
        }
    }

    private void timesNoLetter() {
        check.topic("promise 3, there is no such LETTER");
        for (Trial trial : all) {
            for (int letter : trial.noLetters()) {
                trial.outside("times, letter " + letter, room -> room.times(letter, 5, 6));
            }
        }
    }

    private void timesArguments() {
        check.topic("promise 3, from or to is not 0 to 999, or to is below from");
        for (Trial trial : written) {
            for (int wrong : Wrong.TIMES) {
                trial.illegal("times, from " + wrong, room -> room.times(0, wrong, 999));
                trial.illegal("times, to " + wrong, room -> room.times(0, 0, wrong));
                trial.illegal("times, both " + wrong, room -> room.times(trial.lastLetter(), wrong, wrong));
            }
            trial.illegal("times(0, 1, 0)", room -> room.times(0, 1, 0));
            trial.illegal("times(0, 501, 500)", room -> room.times(0, 501, 500));
            trial.illegal("times(last, 999, 998)", room -> room.times(trial.lastLetter(), 999, 998));
            trial.illegal("times(last, 999, 0)", room -> room.times(trial.lastLetter(), 999, 0));
        }
    }

    private void timesFirstNamed() {
        check.topic("promise 3, of several exceptions the one that is named first");
        for (Trial trial : all) {
            for (int letter : trial.noLetters()) {
                trial.outside("times, from -1, letter " + letter, room -> room.times(letter, -1, 999));
                trial.outside("times, to 1000, letter " + letter, room -> room.times(letter, 0, 1000));
                trial.outside("times, to below from, letter " + letter, room -> room.times(letter, 6, 5));
            }
        }
    }

    private void masterNoLetter() {
        check.topic("promise 4, there is no such LETTER");
        for (Trial trial : all) {
            for (int letter : trial.noLetters()) {
                trial.outside("master, letter " + letter, room -> room.master(letter, true, 3));
            }
        }
    }

    private void masterArguments() {
        check.topic("promise 4, reach is not 0 to 5");
        for (Trial trial : written) {
            for (int wrong : Wrong.REACHES) {
                trial.illegal("master, reach " + wrong, room -> room.master(0, false, wrong));
                trial.illegal("master of last, reach " + wrong, room -> room.master(trial.lastLetter(), true, wrong));
            }
        }
    }

    private void masterFirstNamed() {
        check.topic("promise 4, of several exceptions the one that is named first");
        for (Trial trial : all) {
            for (int letter : trial.noLetters()) {
                trial.outside("master, reach -1, letter " + letter, room -> room.master(letter, true, -1));
                trial.outside("master, reach 6, letter " + letter, room -> room.master(letter, false, 6));
            }
        }
    }

    private void goodNoLetter() {
        check.topic("promise 5, there is no such LETTER");
        for (Trial trial : all) {
            for (int letter : trial.noLetters()) {
                trial.outside("good, letter " + letter, room -> room.good(letter, 7, 1));
            }
        }
    }

    private void goodArguments() {
        check.topic("promise 5, uses is not 0 to 15, or bound is neither a NAME nor 0");
        for (Trial trial : written) {
            for (int wrong : Wrong.SETS_OF_USES) {
                trial.illegal("good, uses " + wrong, room -> room.good(0, wrong, 0));
                trial.illegal("good of last, uses " + wrong, room -> room.good(trial.lastLetter(), wrong, 1));
            }
            for (int wrong : Wrong.BOUNDS) {
                trial.illegal("good, bound " + wrong, room -> room.good(0, 3, wrong));
            }
        }
    }

    private void goodFirstNamed() {
        check.topic("promise 5, of several exceptions the one that is named first");
        for (Trial trial : all) {
            for (int letter : trial.noLetters()) {
                trial.outside("good, uses 16, letter " + letter, room -> room.good(letter, 16, 0));
                trial.outside("good, bound 10, letter " + letter, room -> room.good(letter, 15, 10));
            }
        }
    }

    private void signNoLetter() {
        check.topic("promise 6, there is no such LETTER");
        for (Trial trial : all) {
            for (int letter : trial.noLetters()) {
                trial.outside("sign, letter " + letter, room -> room.sign(letter, 7));
            }
        }
    }

    private void signArguments() {
        check.topic("promise 6, key is not 0 to 15");
        for (Trial trial : written) {
            for (int wrong : Wrong.KEYS) {
                trial.illegal("sign, key " + wrong, room -> room.sign(0, wrong));
                trial.illegal("sign last, key " + wrong, room -> room.sign(trial.lastLetter(), wrong));
            }
        }
    }

    private void signFirstNamed() {
        check.topic("promise 6, of several exceptions the one that is named first");
        for (Trial trial : all) {
            for (int letter : trial.noLetters()) {
                trial.outside("sign, key -1, letter " + letter, room -> room.sign(letter, -1));
                trial.outside("sign, key 16, letter " + letter, room -> room.sign(letter, 16));
            }
        }
    }

    private void anchorNoLetter() {
        check.topic("promise 7, there is no such LETTER");
        for (Trial trial : all) {
            for (int letter : trial.noLetters()) {
                trial.outside("anchor, letter " + letter, room -> room.anchor(letter, true));
                trial.outside("no anchor, letter " + letter, room -> room.anchor(letter, false));
            }
        }
    }

    private void listArguments() {
        check.topic("promise 8, issuer is no NAME, at or next is not 0 to 999, or next is below at");
        for (Trial trial : new Trial[] {empty, middle}) {
            for (int wrong : Wrong.NAMES) {
                trial.illegal("list, issuer " + wrong, room -> room.list(wrong, 0, 999));
            }
            for (int wrong : Wrong.TIMES) {
                trial.illegal("list, at " + wrong, room -> room.list(1, wrong, 999));
                trial.illegal("list, next " + wrong, room -> room.list(1, 0, wrong));
                trial.illegal("list, both " + wrong, room -> room.list(1, wrong, wrong));
            }
            trial.illegal("list(1, 1, 0)", room -> room.list(1, 1, 0));
            trial.illegal("list(1, 501, 500)", room -> room.list(1, 501, 500));
            trial.illegal("list(1, 999, 998)", room -> room.list(1, 999, 998));
        }
    }

    private void listWhenFull() {
        check.topic("promise 8, IllegalStateException if there are 8");
        full.noRoom("list(1, 0, 0)", room -> room.list(1, 0, 0));
        full.noRoom("list(9999, 999, 999)", room -> room.list(9999, 999, 999));
    }

    private void listFirstNamed() {
        check.topic("promise 8, of several exceptions the one that is named first");
        full.illegal("list, issuer 0", room -> room.list(0, 0, 999));
        full.illegal("list, issuer 10000", room -> room.list(10000, 0, 999));
        full.illegal("list, at -1", room -> room.list(1, -1, 999));
        full.illegal("list, at 1000", room -> room.list(1, 1000, 1000));
        full.illegal("list, next -1", room -> room.list(1, 0, -1));
        full.illegal("list, next 1000", room -> room.list(1, 0, 1000));
        full.illegal("list, next below at", room -> room.list(1, 1, 0));
    }

    private void callNoList() {
        check.topic("promise 9, there is no such LIST");
        for (Trial trial : all) {
            for (int list : trial.noLists()) {
                trial.outside("call, list " + list, room -> room.call(list, 7));
            }
        }
    }

    private void callArguments() {
        check.topic("promise 9, serial is not 0 to 30");
        for (Trial trial : written) {
            for (int wrong : Wrong.SERIALS) {
                trial.illegal("call, serial " + wrong, room -> room.call(0, wrong));
                trial.illegal("call of last, serial " + wrong, room -> room.call(trial.lastList(), wrong));
            }
        }
    }

    private void callFirstNamed() {
        check.topic("promise 9, of several exceptions the one that is named first");
        for (Trial trial : all) {
            for (int list : trial.noLists()) {
                trial.outside("call, serial -1, list " + list, room -> room.call(list, -1));
                trial.outside("call, serial 31, list " + list, room -> room.call(list, 31));
            }
        }
    }

    private void signListNoList() {
        check.topic("promise 10, there is no such LIST");
        for (Trial trial : all) {
            for (int list : trial.noLists()) {
                trial.outside("signList, list " + list, room -> room.signList(list, 7));
            }
        }
    }

    private void signListArguments() {
        check.topic("promise 10, key is not 0 to 15");
        for (Trial trial : written) {
            for (int wrong : Wrong.KEYS) {
                trial.illegal("signList, key " + wrong, room -> room.signList(0, wrong));
                trial.illegal("signList of last, key " + wrong, room -> room.signList(trial.lastList(), wrong));
            }
        }
    }

    private void signListFirstNamed() {
        check.topic("promise 10, of several exceptions the one that is named first");
        for (Trial trial : all) {
            for (int list : trial.noLists()) {
                trial.outside("signList, key -1, list " + list, room -> room.signList(list, -1));
                trial.outside("signList, key 16, list " + list, room -> room.signList(list, 16));
            }
        }
    }
}
