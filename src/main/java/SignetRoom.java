/** A room of seals: who vouches for whose key, by which chain of letters, until when, and why not. */
public final class SignetRoom {
    private static final int NONE = -1;
    private static final int MODULUS = 997;
    private static final int MOST_LETTERS = 20;
    private static final int MOST_LISTS = 8;
    private static final int LAST_NAME = 9999;
    private static final int LAST_KEY = 15;
    private static final int LAST_SERIAL = 30;
    private static final int LAST_TIME = 999;
    private static final int LAST_REACH = 5;
    private static final int LAST_USE = 3;
    private static final int ALL_USES = 15;
    private static final int LAST_OF_MANY = 3;
    private static final int LAST_OF_LETTER = 12;
    private static final int LAST_OF_LIST = 5;

    private static final int FLAWLESS = 0;
    private static final int TOO_EARLY = 1;
    private static final int TOO_LATE = 2;
    private static final int OTHER_USE = 3;
    private static final int NO_MASTER = 4;
    private static final int SHORT_REACH = 5;
    private static final int OUT_OF_BOUND = 6;
    private static final int CALLED_BACK = 7;
    private static final int NO_CHAIN = 10;

    private final Letter[] letters = new Letter[MOST_LETTERS];
    private final CallList[] lists = new CallList[MOST_LISTS];
    private final ChainBook book = new ChainBook();
    private final int[] verdictsBefore = new int[MOST_LETTERS];
    private int letterCount;
    private int listCount;
    private boolean isStrictRoom;

    /** Creates a room without letters. */
    public SignetRoom() {
        // Both rows are filled at once, so that no place in them is ever null.
        for (int number = 0; number < MOST_LETTERS; number++) {
            letters[number] = new Letter();
        }
        for (int number = 0; number < MOST_LISTS; number++) {
            lists[number] = new CallList();
        }
    }

    // ---- letters and lists

    /** Adds a letter and answers its number. */
    public int letter(int subject, int issuer, int key, int serial)
            throws IllegalArgumentException, IllegalStateException {
        refuseUnless(isName(subject) && isName(issuer) && isKey(key) && isSerial(serial));
        if (letterCount >= MOST_LETTERS) {
            throw new IllegalStateException("there is no room for another letter");
        }
        int number = letterCount;
        letters[number].write(subject, issuer, key, serial);
        letterCount = number + 1;
        return number;
    }

    /** Sets from when to when a letter is good and answers its print. */
    public int times(int letter, int from, int to)
            throws IndexOutOfBoundsException, IllegalArgumentException {
        refuseUnlessLetter(letter);
        refuseUnless(isTime(from) && isTime(to) && from <= to);
        letters[letter].from = from;
        letters[letter].to = to;
        return letters[letter].print();
    }

    /** Sets whether a letter may back others, and how far, and answers its print. */
    public int master(int letter, boolean isMaster, int reach)
            throws IndexOutOfBoundsException, IllegalArgumentException {
        refuseUnlessLetter(letter);
        refuseUnless(isWithin(reach, LAST_REACH));
        letters[letter].isMaster = isMaster;
        letters[letter].reach = reach;
        return letters[letter].print();
    }

    /** Sets what a letter is good for, and below which name, and answers its print. */
    public int good(int letter, int uses, int bound)
            throws IndexOutOfBoundsException, IllegalArgumentException {
        refuseUnlessLetter(letter);
        refuseUnless(isWithin(uses, ALL_USES) && isNameOrZero(bound));
        letters[letter].uses = uses;
        letters[letter].bound = bound;
        return letters[letter].print();
    }

    /** Signs a letter and answers its seal. */
    public int sign(int letter, int key)
            throws IndexOutOfBoundsException, IllegalArgumentException {
        refuseUnlessLetter(letter);
        refuseUnless(isKey(key));
        letters[letter].seal = sealFor(letters[letter].print(), key);
        return letters[letter].seal;
    }

    /** Sets whether a letter is an anchor and answers how many anchors there are. */
    public int anchor(int letter, boolean isAnchor) throws IndexOutOfBoundsException {
        refuseUnlessLetter(letter);
        letters[letter].isAnchor = isAnchor;
        return Integer.bitCount(anchorSet());
    }

    /** Adds a list with no serials and answers its number. */
    public int list(int issuer, int at, int next)
            throws IllegalArgumentException, IllegalStateException {
        refuseUnless(isName(issuer) && isTime(at) && isTime(next) && at <= next);
        if (listCount >= MOST_LISTS) {
            throw new IllegalStateException("there is no room for another list");
        }
        int number = listCount;
        lists[number].write(issuer, at, next);
        listCount = number + 1;
        return number;
    }

    /** Puts a serial on a list or takes it off and answers how many are on it. */
    public int call(int list, int serial)
            throws IndexOutOfBoundsException, IllegalArgumentException {
        refuseUnlessList(list);
        refuseUnless(isSerial(serial));
        lists[list].serials ^= 1 << serial;
        return Integer.bitCount(lists[list].serials);
    }

    /** Signs a list and answers its seal. */
    public int signList(int list, int key)
            throws IndexOutOfBoundsException, IllegalArgumentException {
        refuseUnlessList(list);
        refuseUnless(isKey(key));
        lists[list].seal = sealFor(lists[list].print(), key);
        return lists[list].seal;
    }

    /** Sets whether the room is strict and answers whether it was. */
    public boolean strict(boolean isStrict) {
        boolean was = isStrictRoom;
        isStrictRoom = isStrict;
        return was;
    }

    // ---- asking

    /** Answers how many letters, anchors, lists or backing pairs there are. */
    public int many(int what) throws IllegalArgumentException {
        refuseUnless(isWithin(what, LAST_OF_MANY));
        survey();
        return countOf(what);
    }

    /** Answers one property of a letter. */
    public int ofLetter(int letter, int what)
            throws IndexOutOfBoundsException, IllegalArgumentException {
        refuseUnlessLetter(letter);
        refuseUnless(isWithin(what, LAST_OF_LETTER));
        return letters[letter].property(what);
    }

    /** Answers one property of a list. */
    public int ofList(int list, int what)
            throws IndexOutOfBoundsException, IllegalArgumentException {
        refuseUnlessList(list);
        refuseUnless(isWithin(what, LAST_OF_LIST));
        return lists[list].property(what);
    }

    /** Answers with what a key signs a number. */
    public int signed(int key, int number) throws IllegalArgumentException {
        refuseUnless(isKey(key) && isResidue(number));
        return sealFor(number, key);
    }

    /** Answers the smallest key by which a seal is right for a number, or NONE. */
    public int signer(int seal, int number) throws IllegalArgumentException {
        refuseUnless(isResidue(seal) && isResidue(number));
        for (int key = 0; key <= LAST_KEY; key++) {
            if (sealFor(number, key) == seal) {
                return key;
            }
        }
        return NONE;
    }

    /** Answers whether a name is under another name or under 0. */
    public boolean isUnder(int name, int other) throws IllegalArgumentException {
        refuseUnless(isName(name) && isNameOrZero(other));
        return isBelow(name, other);
    }

    /** Answers whether the first letter backs the second one. */
    public boolean backs(int one, int other) throws IndexOutOfBoundsException {
        refuseUnlessLetter(one);
        refuseUnlessLetter(other);
        return isBacking(letters[one], letters[other]);
    }

    /** Answers how many chains a letter has. */
    public int chains(int letter) throws IndexOutOfBoundsException {
        refuseUnlessLetter(letter);
        survey();
        book.findChainsOf(letter);
        return book.chainCount;
    }

    /** Answers 0 if a letter holds at a time for a use, otherwise why not. */
    public int verdict(int letter, int time, int use)
            throws IndexOutOfBoundsException, IllegalArgumentException {
        refuseUnlessLetter(letter);
        refuseUnlessMoment(time, use);
        survey();
        book.findChainsOf(letter);
        return decision(time, use);
    }

    /** Answers the letter at a place of the chain that decides the verdict, or NONE. */
    public int chain(int letter, int time, int use, int place)
            throws IndexOutOfBoundsException, IllegalArgumentException {
        refuseUnlessLetter(letter);
        refuseUnlessMoment(time, use);
        survey();
        book.findChainsOf(letter);
        int holding = firstHolding(time, use);
        return book.member(holding == NONE ? 0 : holding, place);
    }

    /** Answers the place of the letter whose flaw the verdict tells, or NONE. */
    public int flawAt(int letter, int time, int use)
            throws IndexOutOfBoundsException, IllegalArgumentException {
        refuseUnlessLetter(letter);
        refuseUnlessMoment(time, use);
        survey();
        book.findChainsOf(letter);
        return decidingPlace(time, use);
    }

    /** Answers whether a letter that holds says that a key is a name's. */
    public boolean isOf(int name, int key, int time, int use) throws IllegalArgumentException {
        refuseUnless(isName(name) && isKey(key));
        refuseUnlessMoment(time, use);
        survey();
        for (int number = 0; number < letterCount; number++) {
            Letter one = letters[number];
            if (one.subject == name && one.key == key) {
                book.findChainsOf(number);
                if (firstHolding(time, use) != NONE) {
                    return true;
                }
            }
        }
        return false;
    }

    /** Answers the mean length of the first holding chains of all letters that hold. */
    public double meanChain(int time, int use) throws IllegalArgumentException {
        refuseUnlessMoment(time, use);
        survey();
        int holders = 0;
        int total = 0;
        for (int number = 0; number < letterCount; number++) {
            book.findChainsOf(number);
            int holding = firstHolding(time, use);
            if (holding != NONE) {
                holders++;
                total += book.lengthOf(holding);
            }
        }
        return holders == 0 ? 0.0 : (double) total / holders;
    }

    // ---- what would be (nothing is changed)

    /** Answers up to which time a letter holds without a break, or NONE. */
    public int holdsTo(int letter, int time, int use)
            throws IndexOutOfBoundsException, IllegalArgumentException {
        refuseUnlessLetter(letter);
        refuseUnlessMoment(time, use);
        survey();
        book.findChainsOf(letter);
        int holding = firstHolding(time, use);
        if (holding == NONE) {
            return NONE;
        }
        for (int later = time + 1; later <= LAST_TIME; later++) {
            // Any chain will do here, so the one that held a moment ago is tried alone first.
            if (firstFlawedPlace(holding, later, use) != NONE) {
                holding = firstHolding(later, use);
            }
            if (holding == NONE) {
                return later - 1;
            }
        }
        return LAST_TIME;
    }

    /** Answers how many verdicts would change if a letter was an anchor, or was none if it is one. */
    public int otherwise(int letter, int time, int use)
            throws IndexOutOfBoundsException, IllegalArgumentException {
        refuseUnlessLetter(letter);
        refuseUnlessMoment(time, use);
        survey();
        for (int number = 0; number < letterCount; number++) {
            book.findChainsOf(number);
            verdictsBefore[number] = decision(time, use);
        }
        turnAnchor(letters[letter]);
        survey();
        int changed = 0;
        for (int number = 0; number < letterCount; number++) {
            book.findChainsOf(number);
            if (decision(time, use) != verdictsBefore[number]) {
                changed++;
            }
        }
        turnAnchor(letters[letter]);
        return changed;
    }

    /** Answers how many letters that hold rely on a key in their first holding chain. */
    public int stolen(int key, int time, int use) throws IllegalArgumentException {
        refuseUnless(isKey(key));
        refuseUnlessMoment(time, use);
        survey();
        int relying = 0;
        for (int number = 0; number < letterCount; number++) {
            book.findChainsOf(number);
            if (hasKey(firstHolding(time, use), key)) {
                relying++;
            }
        }
        return relying;
    }

    /** Answers a checksum of all that can be asked. */
    public long digest() {
        survey();
        long sum = 58102;
        for (int what = 0; what <= LAST_OF_MANY; what++) {
            sum = sum * 31 + countOf(what);
        }
        for (int number = 0; number < letterCount; number++) {
            sum = withPropertiesOf(letters[number], sum);
            book.findChainsOf(number);
            sum = sum * 31 + book.chainCount;
            for (int time = 100; time <= 500; time += 400) {
                for (int use = 0; use <= 2; use += 2) {
                    sum = sum * 31 + decision(time, use);
                    sum = sum * 31 + decidingPlace(time, use);
                }
            }
        }
        for (int number = 0; number < listCount; number++) {
            for (int what = 0; what <= LAST_OF_LIST; what++) {
                sum = sum * 31 + lists[number].property(what);
            }
        }
        return sum;
    }

    private static long withPropertiesOf(Letter one, long before) {
        long sum = before;
        for (int what = 0; what <= LAST_OF_LETTER; what++) {
            sum = sum * 31 + one.property(what);
        }
        return sum;
    }

    // ---- what is refused

    private static void refuseUnless(boolean isFit) {
        if (!isFit) {
            throw new IllegalArgumentException("an argument is out of its range");
        }
    }

    private static void refuseUnlessMoment(int time, int use) {
        refuseUnless(isTime(time) && isWithin(use, LAST_USE));
    }

    private void refuseUnlessLetter(int number) {
        if (!isLetter(number)) {
            throw new IndexOutOfBoundsException("there is no such letter");
        }
    }

    private void refuseUnlessList(int number) {
        if (number < 0 || number >= listCount) {
            throw new IndexOutOfBoundsException("there is no such list");
        }
    }

    private boolean isLetter(int number) {
        return number >= 0 && number < letterCount;
    }

    private static boolean isWithin(int number, int last) {
        return number >= 0 && number <= last;
    }

    private static boolean isKey(int number) {
        return isWithin(number, LAST_KEY);
    }

    private static boolean isSerial(int number) {
        return isWithin(number, LAST_SERIAL);
    }

    private static boolean isTime(int number) {
        return isWithin(number, LAST_TIME);
    }

    private static boolean isResidue(int number) {
        return isWithin(number, MODULUS - 1);
    }

    private static boolean isName(int number) {
        if (number < 1 || number > LAST_NAME) {
            return false;
        }
        for (int rest = number; rest > 0; rest /= 10) {
            if (rest % 10 == 0) {
                return false;
            }
        }
        return true;
    }

    private static boolean isNameOrZero(int number) {
        return number == 0 || isName(number);
    }

    // ---- names, seals and who backs whom

    private static boolean isBelow(int name, int other) {
        for (int rest = name; rest > 0; rest /= 10) {
            if (rest == other) {
                return true;
            }
        }
        return other == 0;
    }

    private static int sealFor(int number, int key) {
        return number * (2 * key + 3) % MODULUS;
    }

    private static int mix(int print, int value) {
        return (print * 31 + value) % MODULUS;
    }

    private static boolean isBacking(Letter behind, Letter ahead) {
        return behind.subject == ahead.issuer && ahead.isSealedBy(behind.key);
    }

    private int backersOf(Letter ahead) {
        int set = 0;
        for (int number = 0; number < letterCount; number++) {
            if (isBacking(letters[number], ahead)) {
                set |= 1 << number;
            }
        }
        return set;
    }

    private int anchorSet() {
        int set = 0;
        for (int number = 0; number < letterCount; number++) {
            if (letters[number].isAnchor) {
                set |= 1 << number;
            }
        }
        return set;
    }

    private int countOf(int what) {
        switch (what) {
            case 0:
                return letterCount;
            case 1:
                return Integer.bitCount(anchorSet());
            case 2:
                return listCount;
            default:
                return pairCount();
        }
    }

    private int pairCount() {
        int pairs = 0;
        for (int number = 0; number < letterCount; number++) {
            pairs += Integer.bitCount(book.backers[number]);
        }
        return pairs;
    }

    // ---- judging

    /** Marks who backs whom now and who signed the lists; all that is asked next rests on it. */
    private void survey() {
        for (int number = 0; number < letterCount; number++) {
            book.backers[number] = backersOf(letters[number]);
        }
        book.markWays(letterCount, anchorSet());
        for (int number = 0; number < listCount; number++) {
            lists[number].markSigners();
        }
    }

    /** The verdict on the letter whose chains were found last. */
    private int decision(int time, int use) {
        if (book.chainCount == 0) {
            return NO_CHAIN;
        }
        if (firstHolding(time, use) != NONE) {
            return FLAWLESS;
        }
        return flawOf(0, firstFlawedPlace(0, time, use), time, use);
    }

    /** The place of the flaw that the decision tells, NONE if it tells none. */
    private int decidingPlace(int time, int use) {
        return firstHolding(time, use) == NONE ? firstFlawedPlace(0, time, use) : NONE;
    }

    private int firstHolding(int time, int use) {
        for (int chain = 0; chain < book.chainCount; chain++) {
            if (firstFlawedPlace(chain, time, use) == NONE) {
                return chain;
            }
        }
        return NONE;
    }

    private int firstFlawedPlace(int chain, int time, int use) {
        int length = book.lengthOf(chain);
        for (int place = 0; place < length; place++) {
            if (flawOf(chain, place, time, use) != FLAWLESS) {
                return place;
            }
        }
        return NONE;
    }

    private int flawOf(int chain, int place, int time, int use) {
        int number = book.member(chain, place);
        if (!isLetter(number)) {
            return FLAWLESS;
        }
        Letter one = letters[number];
        int flaw = one.flawAlone(time, use);
        if (flaw == FLAWLESS && place > 0) {
            flaw = flawAsBacker(one, chain, place);
        }
        if (flaw == FLAWLESS && isCalledBack(one, book.member(chain, place + 1), time)) {
            flaw = CALLED_BACK;
        }
        return flaw;
    }

    private int flawAsBacker(Letter one, int chain, int place) {
        if (!one.isMaster) {
            return NO_MASTER;
        }
        if (one.reach < place - 1) {
            return SHORT_REACH;
        }
        for (int ahead = 0; ahead < place; ahead++) {
            int number = book.member(chain, ahead);
            if (isLetter(number) && !isBelow(letters[number].subject, one.bound)) {
                return OUT_OF_BOUND;
            }
        }
        return FLAWLESS;
    }

    private boolean isCalledBack(Letter one, int behind, int time) {
        if (one.isAnchor || !isLetter(behind)) {
            return false;
        }
        int latest = latestList(one.issuer, letters[behind].key, time);
        if (latest == NONE) {
            return isStrictRoom;
        }
        CallList told = lists[latest];
        return told.hasSerial(one.serial) || isStrictRoom && time > told.next;
    }

    private int latestList(int issuer, int key, int time) {
        int latest = NONE;
        int latestAt = NONE;
        for (int number = 0; number < listCount; number++) {
            CallList one = lists[number];
            boolean isRight = one.issuer == issuer && (one.signers >> key & 1) != 0;
            if (isRight && one.at <= time && one.at >= latestAt) {
                latest = number;
                latestAt = one.at;
            }
        }
        return latest;
    }

    private boolean hasKey(int chain, int key) {
        int length = book.lengthOf(chain);
        for (int place = 0; place < length; place++) {
            int number = book.member(chain, place);
            if (isLetter(number) && letters[number].key == key) {
                return true;
            }
        }
        return false;
    }

    private static void turnAnchor(Letter one) {
        one.isAnchor = !one.isAnchor;
    }

    /** A letter: whose a key is, what it is good for, and who may write others. */
    private static final class Letter {
        private int subject;
        private int issuer;
        private int key;
        private int serial;
        private int from;
        private int to = LAST_TIME;
        private boolean isMaster;
        private int reach;
        private int uses = ALL_USES;
        private int bound;
        private int seal;
        private boolean isAnchor;

        private void write(int newSubject, int newIssuer, int newKey, int newSerial) {
            subject = newSubject;
            issuer = newIssuer;
            key = newKey;
            serial = newSerial;
        }

        private int print() {
            int print = mix(mix(mix(mix(17, subject), issuer), key), serial);
            print = mix(mix(print, from), to);
            print = mix(mix(print, isMaster ? 1 : 0), reach);
            return mix(mix(print, uses), bound);
        }

        private boolean isSealedBy(int signingKey) {
            return seal == sealFor(print(), signingKey);
        }

        private int flawAlone(int time, int use) {
            if (time < from) {
                return TOO_EARLY;
            }
            if (time > to) {
                return TOO_LATE;
            }
            return (uses >> use & 1) == 0 ? OTHER_USE : FLAWLESS;
        }

        private int property(int what) {
            switch (what) {
                case 0:
                    return subject;
                case 1:
                    return issuer;
                case 2:
                    return key;
                case 3:
                    return serial;
                case 4:
                    return from;
                case 5:
                    return to;
                case 6:
                    return isMaster ? 1 : 0;
                case 7:
                    return reach;
                case 8:
                    return uses;
                case 9:
                    return bound;
                case 10:
                    return seal;
                case 11:
                    return print();
                default:
                    return isAnchor ? 1 : 0;
            }
        }
    }

    /** A list of the serials that its issuer calls back. */
    private static final class CallList {
        private int issuer;
        private int at;
        private int next;
        private int serials;
        private int seal;
        private int signers;

        private void write(int newIssuer, int newAt, int newNext) {
            issuer = newIssuer;
            at = newAt;
            next = newNext;
        }

        private int print() {
            return mix(mix(mix(mix(19, issuer), at), next), serials % MODULUS);
        }

        /** Marks the keys by which the seal is right for the print: all of them if both are 0. */
        private void markSigners() {
            int print = print();
            signers = 0;
            for (int key = 0; key <= LAST_KEY; key++) {
                if (sealFor(print, key) == seal) {
                    signers |= 1 << key;
                }
            }
        }

        private boolean hasSerial(int serial) {
            return (serials >> serial & 1) != 0;
        }

        private int property(int what) {
            switch (what) {
                case 0:
                    return issuer;
                case 1:
                    return at;
                case 2:
                    return next;
                case 3:
                    return serials;
                case 4:
                    return seal;
                default:
                    return print();
            }
        }
    }

    /** The first chains of one letter, in order, in rows that every search uses again. */
    private static final class ChainBook {
        private static final int MOST_CHAINS = 60;
        private static final int LONGEST = 6;

        private final int[] backers = new int[MOST_LETTERS];
        private final int[] waysEndingIn = new int[LONGEST];
        private final int[][] rows = new int[MOST_CHAINS][LONGEST];
        private final int[] lengths = new int[MOST_CHAINS];
        private final int[] begun = new int[LONGEST];
        private int letterCount;
        private int chainCount;

        /**
         * Marks for each number of steps the letters from which so many steps of backing can end
         * at an anchor: without it a search would try all the rows that end nowhere.
         */
        private void markWays(int count, int anchors) {
            letterCount = count;
            waysEndingIn[0] = anchors;
            for (int steps = 1; steps < LONGEST; steps++) {
                int set = 0;
                for (int number = 0; number < letterCount; number++) {
                    if ((backers[number] & waysEndingIn[steps - 1]) != 0) {
                        set |= 1 << number;
                    }
                }
                waysEndingIn[steps] = set;
            }
        }

        private void findChainsOf(int letter) {
            chainCount = 0;
            begun[0] = letter;
            for (int length = 1; length <= LONGEST; length++) {
                if ((waysEndingIn[length - 1] >> letter & 1) != 0) {
                    extend(this, 1, length, 1 << letter);
                }
            }
        }

        // Static, as a method that calls itself has to be here; the place is its depth.
        private static void extend(ChainBook book, int place, int length, int used) {
            if (place >= length || place >= LONGEST) {
                book.keep(length);
                return;
            }
            int ways = book.waysEndingIn[length - 1 - place];
            int open = book.backers[book.begun[place - 1]] & ways & ~used;
            for (int number = 0; number < book.letterCount; number++) {
                if ((open >> number & 1) != 0 && book.chainCount < MOST_CHAINS) {
                    book.begun[place] = number;
                    extend(book, place + 1, length, used | 1 << number);
                }
            }
        }

        private void keep(int length) {
            if (chainCount < MOST_CHAINS) {
                System.arraycopy(begun, 0, rows[chainCount], 0, LONGEST);
                lengths[chainCount] = length;
                chainCount++;
            }
        }

        private int lengthOf(int chain) {
            return chain < 0 || chain >= chainCount ? 0 : lengths[chain];
        }

        private int member(int chain, int place) {
            if (chain < 0 || chain >= chainCount || place < 0 || place >= lengths[chain]) {
                return NONE;
            }
            return rows[chain][place];
        }
    }
}
