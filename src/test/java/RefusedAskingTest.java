/**
 * Promises 12 to 27: each sentence that says when a question is refused, and which exception is
 * thrown if several apply. Neither a refused question nor an answered one changes anything.
 */
public final class RefusedAskingTest {
    private interface Moment {
        long at(SignetRoom room, int time, int use);
    }

    private interface LetterMoment {
        long at(SignetRoom room, int letter, int time, int use);
    }

    private final Check check = new Check();
    private final Trial empty = Trial.empty(check);
    private final Trial middle = Trial.middle(check);
    private final Trial full = Trial.full(check);
    private final Trial[] all = {empty, middle, full};
    private final Trial[] written = {middle, full};

    public static void main(String[] args) {
        RefusedAskingTest test = new RefusedAskingTest();
        test.many();
        test.ofLetter();
        test.ofList();
        test.signed();
        test.signer();
        test.isUnder();
        test.backs();
        test.chains();
        test.verdict();
        test.chain();
        test.flawAt();
        test.isOf();
        test.meanChain();
        test.holdsTo();
        test.otherwise();
        test.stolen();
        test.askingChangesNothing();
        test.whatWouldBeChangesNothing();
        test.check.end();
    }

    private void many() {
        check.topic("promise 12, what is not 0 to 3");
        for (Trial trial : all) {
            for (int wrong : Wrong.beside(3)) {
                trial.illegal("many, what " + wrong, room -> room.many(wrong));
            }
        }
    }

    private void ofLetter() {
        check.topic("promise 13, there is no such LETTER");
        for (Trial trial : all) {
            for (int letter : trial.noLetters()) {
                trial.outside("ofLetter, letter " + letter, room -> room.ofLetter(letter, 0));
                trial.outside("ofLetter, what -1, letter " + letter, room -> room.ofLetter(letter, -1));
                trial.outside("ofLetter, what 13, letter " + letter, room -> room.ofLetter(letter, 13));
            }
        }
        check.topic("promise 13, what is not 0 to 12");
        for (Trial trial : written) {
            for (int wrong : Wrong.beside(12)) {
                trial.illegal("ofLetter, what " + wrong, room -> room.ofLetter(0, wrong));
                trial.illegal("ofLetter of last, what " + wrong, room -> room.ofLetter(trial.lastLetter(), wrong));
            }
        }
    }

    private void ofList() {
        check.topic("promise 14, there is no such LIST");
        for (Trial trial : all) {
            for (int list : trial.noLists()) {
                trial.outside("ofList, list " + list, room -> room.ofList(list, 0));
                trial.outside("ofList, what -1, list " + list, room -> room.ofList(list, -1));
                trial.outside("ofList, what 6, list " + list, room -> room.ofList(list, 6));
            }
        }
        check.topic("promise 14, what is not 0 to 5");
        for (Trial trial : written) {
            for (int wrong : Wrong.beside(5)) {
                trial.illegal("ofList, what " + wrong, room -> room.ofList(0, wrong));
                trial.illegal("ofList of last, what " + wrong, room -> room.ofList(trial.lastList(), wrong));
            }
        }
    }

    private void signed() {
        check.topic("promise 15, key is not 0 to 15, or number is not 0 to 996");
        for (Trial trial : all) {
            for (int wrong : Wrong.KEYS) {
                trial.illegal("signed, key " + wrong, room -> room.signed(wrong, 0));
            }
            for (int wrong : Wrong.RESIDUES) {
                trial.illegal("signed, number " + wrong, room -> room.signed(15, wrong));
                trial.illegal("signed, key 16, number " + wrong, room -> room.signed(16, wrong));
            }
        }
    }

    private void signer() {
        check.topic("promise 16, one of them is not 0 to 996");
        for (Trial trial : all) {
            for (int wrong : Wrong.RESIDUES) {
                trial.illegal("signer, seal " + wrong, room -> room.signer(wrong, 996));
                trial.illegal("signer, number " + wrong, room -> room.signer(996, wrong));
                trial.illegal("signer, both " + wrong, room -> room.signer(wrong, wrong));
            }
        }
    }

    private void isUnder() {
        check.topic("promise 17, name is no NAME, or other is neither a NAME nor 0");
        for (Trial trial : all) {
            for (int wrong : Wrong.NAMES) {
                trial.illegal("isUnder, name " + wrong, room -> room.isUnder(wrong, 0) ? 1 : 0);
                trial.illegal("isUnder, the same name " + wrong, room -> room.isUnder(wrong, wrong) ? 1 : 0);
            }
            for (int wrong : Wrong.BOUNDS) {
                trial.illegal("isUnder, other " + wrong, room -> room.isUnder(1, wrong) ? 1 : 0);
            }
        }
    }

    private void backs() {
        check.topic("promise 18, there is no such LETTER");
        for (Trial trial : all) {
            for (int letter : trial.noLetters()) {
                trial.outside("backs, both " + letter, room -> room.backs(letter, letter) ? 1 : 0);
                trial.outside("backs, one " + letter, room -> room.backs(letter, 0) ? 1 : 0);
                trial.outside("backs, other " + letter, room -> room.backs(0, letter) ? 1 : 0);
            }
        }
    }

    private void chains() {
        check.topic("promise 19, there is no such LETTER");
        for (Trial trial : all) {
            for (int letter : trial.noLetters()) {
                trial.outside("chains, letter " + letter, room -> room.chains(letter));
            }
        }
    }

    private void verdict() {
        ofLetterAtMoment("promise 20", "verdict", SignetRoom::verdict);
    }

    private void chain() {
        ofLetterAtMoment("promise 21", "chain", (room, letter, time, use) -> room.chain(letter, time, use, 0));
        ofLetterAtMoment("promise 21", "chain, place -1",
                (room, letter, time, use) -> room.chain(letter, time, use, -1));
    }

    private void flawAt() {
        ofLetterAtMoment("promise 22", "flawAt", SignetRoom::flawAt);
    }

    private void isOf() {
        check.topic("promise 23, name is no NAME, key is not 0 to 15, or the time or the use is none");
        for (Trial trial : all) {
            for (int wrong : Wrong.NAMES) {
                trial.illegal("isOf, name " + wrong, room -> room.isOf(wrong, 0, 0, 0) ? 1 : 0);
            }
            for (int wrong : Wrong.KEYS) {
                trial.illegal("isOf, key " + wrong, room -> room.isOf(1, wrong, 0, 0) ? 1 : 0);
            }
        }
        atMoment("promise 23", "isOf", (room, time, use) -> room.isOf(1, 0, time, use) ? 1 : 0);
    }

    private void meanChain() {
        atMoment("promise 24", "meanChain", (room, time, use) -> (long) room.meanChain(time, use));
    }

    private void holdsTo() {
        ofLetterAtMoment("promise 25", "holdsTo", SignetRoom::holdsTo);
    }

    private void otherwise() {
        ofLetterAtMoment("promise 26", "otherwise", SignetRoom::otherwise);
    }

    private void stolen() {
        check.topic("promise 27, key is not 0 to 15");
        for (Trial trial : all) {
            for (int wrong : Wrong.KEYS) {
                trial.illegal("stolen, key " + wrong, room -> room.stolen(wrong, 0, 0));
            }
        }
        atMoment("promise 27", "stolen", (room, time, use) -> room.stolen(0, time, use));
    }

    private void ofLetterAtMoment(String promise, String name, LetterMoment question) {
        check.topic(promise + ", there is no such LETTER, and that is named first");
        for (Trial trial : all) {
            for (int letter : trial.noLetters()) {
                String what = name + ", letter " + letter;
                trial.outside(what, room -> question.at(room, letter, 0, 0));
                trial.outside(what + ", time -1", room -> question.at(room, letter, -1, 0));
                trial.outside(what + ", time 1000", room -> question.at(room, letter, 1000, 0));
                trial.outside(what + ", use -1", room -> question.at(room, letter, 0, -1));
                trial.outside(what + ", use 4", room -> question.at(room, letter, 0, 4));
            }
        }
        check.topic(promise + ", time is not 0 to 999, or use is not 0 to 3");
        for (Trial trial : written) {
            for (int wrong : Wrong.TIMES) {
                trial.illegal(name + ", time " + wrong, room -> question.at(room, 0, wrong, 0));
                trial.illegal(name + ", both wrong", room -> question.at(room, trial.lastLetter(), wrong, 4));
            }
            for (int wrong : Wrong.USES) {
                trial.illegal(name + ", use " + wrong, room -> question.at(room, trial.lastLetter(), 0, wrong));
            }
        }
    }

    private void atMoment(String promise, String name, Moment question) {
        check.topic(promise + ", time is not 0 to 999, or use is not 0 to 3");
        for (Trial trial : all) {
            for (int wrong : Wrong.TIMES) {
                trial.illegal(name + ", time " + wrong, room -> question.at(room, wrong, 0));
                trial.illegal(name + ", both wrong", room -> question.at(room, wrong, 4));
            }
            for (int wrong : Wrong.USES) {
                trial.illegal(name + ", use " + wrong, room -> question.at(room, 0, wrong));
            }
        }
    }

    private void askingChangesNothing() {
        check.topic("promises 12 to 24, a question changes nothing");
        middle.answers("many(3)", room -> room.many(3), "5");
        middle.answers("chains(3)", room -> room.chains(3), "1");
        middle.answers("verdict(4, 99, 0)", room -> room.verdict(4, 99, 0), "1");
        middle.answers("chain(3, 100, 0, 3)", room -> room.chain(3, 100, 0, 3), "0");
        middle.answers("flawAt(4, 99, 0)", room -> room.flawAt(4, 99, 0), "0");
        middle.answers("isOf(11, 7, 100, 0)", room -> room.isOf(11, 7, 100, 0) ? 1 : 0, "0");
        middle.answers("meanChain(999, 3)", room -> (long) room.meanChain(999, 3), "1");
        full.answers("many(3)", room -> room.many(3), "20");
        full.answers("chains(19)", room -> room.chains(19), "1");
        full.answers("verdict(19, 999, 3)", room -> room.verdict(19, 999, 3), "7");
    }

    private void whatWouldBeChangesNothing() {
        check.topic("promises 25 to 27, nothing is changed");
        middle.answers("holdsTo(1, 50, 0)", room -> room.holdsTo(1, 50, 0), "400");
        middle.answers("holdsTo(4, 0, 0)", room -> room.holdsTo(4, 0, 0), "-1");
        middle.answers("otherwise(0, 100, 0)", room -> room.otherwise(0, 100, 0), "5");
        middle.answers("otherwise(4, 100, 0)", room -> room.otherwise(4, 100, 0), "1");
        middle.answers("stolen(0, 100, 0)", room -> room.stolen(0, 100, 0), "4");
        full.answers("holdsTo(19, 0, 0)", room -> room.holdsTo(19, 0, 0), "239");
        full.answers("otherwise(0, 999, 3)", room -> room.otherwise(0, 999, 3), "4");
        full.answers("otherwise(12, 999, 3)", room -> room.otherwise(12, 999, 3), "4");
        full.answers("stolen(5, 999, 3)", room -> room.stolen(5, 999, 3), "4");
    }
}
