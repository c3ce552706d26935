import java.util.Arrays;
import java.util.NoSuchElementException;

/** Who can play whom in a piece of scenes, second by second of an evening. */
public final class OnePlays {
    public static final int NONE = -1;

    /** The answer where there is no such number, though the question stands. */
    private static final int NEVER = -2;
    private static final int NO_SLACK = -1000;
    private static final int SLACK_WITHOUT = 999;

    private static final int MOST_BYTES = 900;
    private static final int MOST_PARTS = 7;
    private static final int MOST_SCENES = 5;
    private static final int MOST_AFTERS = 6;
    private static final int MOST_ONS = 14;
    private static final int MOST_SAWS = 7;
    private static final int MOST_PLAYERS = 7;
    private static final int MOST_ORDERS = 120;
    private static final int MOST_KEPT = 12;
    private static final int MOST_IMAGES = 3;
    private static final int MOST_CUTS = 3;
    private static final int MOST_GAP = 99;
    /** Bits of up to seven: parts, or those seen. */
    private static final int SETS = 128;

    private static final int NONE_SUCH = 1;
    private static final int A_NUMBER = 2;
    private static final int NO_ROOM = 3;
    private static final int A_FAULT = 4;
    private static final int NOT_SO = 5;
    private static final int NOTHING_THERE = 6;

    private static final int FORM = 1;
    private static final int UNTOLD = 2;
    private static final int AGAIN = 3;
    private static final int BOUNDS = 4;
    private static final int MANY = 5;
    private static final int LACKS = 6;
    private static final int CIRCLE = 7;

    // The rows of parts and appearances stand as part() and on() number them.
    private static final int KIND = 0;
    private static final int COAT = 1;
    private static final int DON = 2;
    private static final int DOFF = 3;
    private static final int BEARD = 4;
    private static final int WHOSE = 5;
    private static final int PART_ROW = 5;

    private static final int PLAIN = 0;
    private static final int BEARDED = 1;
    private static final int PUPPET = 2;
    private static final int DEAD = 3;

    private static final int OF_PART = 0;
    private static final int OF_SCENE = 1;
    private static final int BEHIND = 2;
    private static final int COMES_IN = 3;
    private static final int GOES_OFF = 4;
    private static final int IS_CUT = 5;
    private static final int FROM = 5;
    private static final int TILL = 6;
    private static final int ON_ROW = 7;

    private static final int SAW_PART = 0;
    private static final int SAW_TIME = 1;
    private static final int SAW_SIDE = 2;
    private static final int SAW_ROW = 3;

    private static final int LEFT = 0;
    private static final int RIGHT = 1;

    private final Tape tape;
    private final Reader reader;
    /** The PIECE; it has no parts as long as there is none. */
    private Piece told;
    /** Where the next text is read into, so that a FAULT leaves the PIECE alone. */
    private Piece spare;
    private final Evening evening;
    private final Acts acts;
    private final Night night;
    private final Casting casting;
    private final Search search;
    private final Sightings sightings;
    private int refusal;
    private int faultMet;
    private int faultPlace;

    public OnePlays() {
        tape = new Tape();
        told = new Piece();
        spare = new Piece();
        reader = new Reader(tape, spare);
        evening = new Evening();
        acts = new Acts();
        night = new Night(told);
        casting = new Casting(night);
        search = new Search(told);
        sightings = new Sightings(told);
        refusal = 0;
        faultMet = 0;
        faultPlace = NONE;
    }

    // ---- the piece

    public int feed(int a, int b, int c, int d, int e) {
        if (!tape.hasRoom(20)) {
            return NONE;
        }
        tape.add(a);
        tape.add(b);
        tape.add(c);
        tape.add(d);
        tape.add(e);
        return tape.count;
    }

    public int piece(int n) {
        if (n < 0 || n > tape.count) {
            return refuse(A_NUMBER);
        }
        faultMet = reader.read(n, spare);
        tape.count = 0;
        if (faultMet != 0) {
            faultPlace = reader.place;
            return refuse(A_FAULT);
        }
        Piece old = told;
        told = spare;
        spare = old;
        startAnew();
        return fine(told.onCount);
    }

    private void startAnew() {
        told.listOrders();
        evening.start(told.orderList[0]);
        acts.clear();
        night.take(told, NONE);
        search.take(told);
        sightings.take(told);
    }

    public int fault() {
        return faultMet;
    }

    public int where() {
        return refusal == A_FAULT ? faultPlace : NONE;
    }

    private int refuse(int number) {
        refusal = number;
        return NONE;
    }

    private int fine(int answer) {
        refusal = 0;
        return answer;
    }

    private int fineIf(boolean is) {
        return fine(is ? 1 : 0);
    }

    private boolean denied(int number) {
        refusal = number;
        return false;
    }

    private boolean noPiece() {
        return told.partCount == 0;
    }

    private boolean isPart(int part) {
        return part >= 0 && part < told.partCount;
    }

    private boolean isScene(int scene) {
        return scene >= 0 && scene < told.sceneCount;
    }

    private boolean isOn(int on) {
        return on >= 0 && on < told.onCount;
    }

    private boolean isSaw(int saw) {
        return saw >= 0 && saw < told.sawCount;
    }

    private boolean isPlayer(int player) {
        return !noPiece() && player >= 0 && player < MOST_PLAYERS;
    }

    // ---- an evening

    /** The times of THE EVENING; worked out again only when it has become another. */
    private Night tonight() {
        night.set(evening.order, told.gapTold, evening.cutOnes);
        return night;
    }

    /** Bits of a player's APPEARANCES that are there. */
    private int onsOf(int player) {
        return told.onsOfParts(evening.partsOf(player, told.partCount)) & ~evening.cutOnes;
    }

    public int orders() {
        return noPiece() ? refuse(NONE_SUCH) : fine(told.orderCount);
    }

    public int scene(int i) {
        return isScene(i) ? fine(sceneAt(evening.order, i)) : refuse(NONE_SUCH);
    }

    public int begins(int scene, boolean ends) {
        if (!isScene(scene)) {
            return refuse(NONE_SUCH);
        }
        int begin = tonight().sceneBegins[scene];
        return fine(ends ? begin + told.lasts[scene] : begin);
    }

    public int seen(int on, boolean ends) {
        if (!isOn(on)) {
            return refuse(NONE_SUCH);
        }
        Night now = tonight();
        return fine(ends ? now.onEnds[on] : now.onBegins[on]);
    }

    public int change(int part, int other) {
        if (!isPart(part) || !isPart(other)) {
            return refuse(NONE_SUCH);
        }
        return fine(told.changeTime(part, other, NONE));
    }

    public int need(int on, int other) {
        if (!isOn(on) || !isOn(other)) {
            return refuse(NONE_SUCH);
        }
        return fine(told.needTime(on, other, NONE));
    }

    public int meet(int on, int other) {
        if (!isOn(on) || !isOn(other)) {
            return refuse(NONE_SUCH);
        }
        return fineIf(tonight().doMeet(on, other));
    }

    public int bodily(int on) {
        if (!isOn(on)) {
            return refuse(NONE_SUCH);
        }
        int there = told.allOns() & ~evening.cutOnes;
        return fine(tonight().bodilyOf(there) >> on & 1);
    }

    public int can(int player) {
        if (!isPlayer(player)) {
            return refuse(NONE_SUCH);
        }
        return fineIf(tonight().canBe(onsOf(player)));
    }

    public int could(int parts) {
        if (noPiece()) {
            return refuse(NONE_SUCH);
        }
        if (parts < 0 || parts > told.allParts()) {
            return refuse(A_NUMBER);
        }
        return fineIf(tonight().good(parts));
    }

    public int troubled() {
        if (noPiece()) {
            return refuse(NONE_SUCH);
        }
        Night now = tonight();
        int ahead = 0;
        for (int r = 0; r < told.onCount; r++) {
            int on = now.row[r];
            if (!evening.isCut(on)) {
                ahead |= 1 << on;
                int player = evening.playerOf(told.ons[on][OF_PART]);
                if (!now.canBe(ahead & onsOf(player))) {
                    return fine(on);
                }
            }
        }
        return fine(NEVER);
    }

    public int slack(int player) {
        if (!isPlayer(player)) {
            refuse(NONE_SUCH);
            return NO_SLACK;
        }
        return fine(tonight().slackOf(onsOf(player)));
    }

    public int sweat(int player, int what) {
        if (!isPlayer(player) || what < 0 || what > 5) {
            return refuse(NONE_SUCH);
        }
        int his = onsOf(player);
        Night now = tonight();
        switch (what) {
            case 0:
                return fine(now.seconds(now.bodilyOf(his)));
            case 4:
                return fine(now.seconds(his & told.behindOnes));
            case 5:
                return fine(now.seconds(his & told.puppetOnes));
            default:
                return fine(now.changesOf(his, what));
        }
    }

    // ---- fewest

    public int fewest() {
        return noPiece() ? refuse(NONE_SUCH) : fine(tonight().fewestFor(told.allParts()));
    }

    public int player(int part) {
        if (!isPart(part)) {
            return refuse(NONE_SUCH);
        }
        tonight();
        return fine(casting.playerOf(part));
    }

    public int fewestOfAll() {
        if (noPiece()) {
            return refuse(NONE_SUCH);
        }
        return fine(search.bestOfAll(evening.cutOnes));
    }

    public int sceneOfAll(int i) {
        if (!isScene(i)) {
            return refuse(NONE_SUCH);
        }
        if (search.bestOfAll(evening.cutOnes) == NEVER) {
            return fine(NEVER);
        }
        return fine(sceneAt(search.bestOrder, i));
    }

    public int enough() {
        if (noPiece()) {
            return refuse(NONE_SUCH);
        }
        int best = search.bestOfAll(evening.cutOnes);
        return fineIf(best != NEVER && best <= told.playersTold);
    }

    public int cuts() {
        if (noPiece()) {
            return refuse(NONE_SUCH);
        }
        tonight();
        return fine(casting.fewestCuts());
    }

    public int cutsBy() {
        if (noPiece()) {
            return refuse(NONE_SUCH);
        }
        tonight();
        return fine(casting.cutBits());
    }

    public int ready(int part) {
        if (!isPart(part)) {
            return refuse(NONE_SUCH);
        }
        int now = tonight().fewestFor(told.allParts());
        if (now == NEVER) {
            return fine(NEVER);
        }
        return fine(now - search.fewestIfReady(part, evening.order, evening.cutOnes));
    }

    public int lent(int part) {
        return isPart(part) ? fine(fewestWithout(part)) : refuse(NONE_SUCH);
    }

    private int fewestWithout(int part) {
        return tonight().fewestFor(told.allParts() & ~(1 << part));
    }

    public int lend() {
        if (noPiece()) {
            return refuse(NONE_SUCH);
        }
        int least = NEVER;
        int by = NEVER;
        for (int p = 0; p < told.partCount; p++) {
            int without = fewestWithout(p);
            if (without != NEVER && (by == NEVER || without < least)) {
                least = without;
                by = p;
            }
        }
        return fine(by);
    }

    public int gap() {
        if (noPiece()) {
            return refuse(NONE_SUCH);
        }
        return fine(search.leastGap(evening.order, evening.cutOnes));
    }

    public int swaps() {
        if (noPiece()) {
            return refuse(NONE_SUCH);
        }
        return fine(search.fewestSwaps(evening.order, evening.cutOnes));
    }

    public int who(int players) {
        if (noPiece()) {
            return refuse(NONE_SUCH);
        }
        if (players < 1 || players > 3) {
            return refuse(A_NUMBER);
        }
        tonight();
        return fine(casting.castsFor(players));
    }

    // ---- what was seen

    public int same(int saw, int other) {
        if (!isSaw(saw) || !isSaw(other) || saw == other) {
            return refuse(NONE_SUCH);
        }
        return fineIf(sightings.good(1 << saw | 1 << other));
    }

    public int must() {
        if (noPiece()) {
            return refuse(NONE_SUCH);
        }
        return fine(sightings.fewestFor((1 << told.sawCount) - 1));
    }

    public int betrayed() {
        if (noPiece()) {
            return refuse(NONE_SUCH);
        }
        for (int a = 0; a < told.sawCount; a++) {
            for (int b = a + 1; b < told.sawCount; b++) {
                if (!sightings.good(1 << a | 1 << b)) {
                    return fine(8 * a + b);
                }
            }
        }
        return fine(NEVER);
    }

    // ---- acts

    public boolean swap(int i, int j) {
        if (!isScene(i) || !isScene(j) || i == j) {
            return denied(NONE_SUCH);
        }
        int order = swapped(evening.order, i, j);
        if (!told.isOrder(order)) {
            return denied(NOT_SO);
        }
        acts.keep(evening.packed());
        evening.order = order;
        return done();
    }

    public boolean cast(int part, int player) {
        if (!isPart(part)) {
            return denied(NONE_SUCH);
        }
        if (player < 0 || player >= MOST_PLAYERS) {
            return denied(A_NUMBER);
        }
        if (evening.playerOf(part) == player) {
            return denied(NOT_SO);
        }
        acts.keep(evening.packed());
        evening.give(part, player);
        return done();
    }

    public boolean cut(int on, boolean is) {
        if (!isOn(on)) {
            return denied(NONE_SUCH);
        }
        if (evening.isCut(on) == is) {
            return denied(NOT_SO);
        }
        acts.keep(evening.packed());
        evening.cutOnes ^= 1 << on;
        return done();
    }

    private boolean done() {
        refusal = 0;
        return true;
    }

    public boolean undo() {
        if (acts.pastCount == 0) {
            return denied(NOTHING_THERE);
        }
        evening.unpack(acts.stepBack(evening.packed()));
        return done();
    }

    public boolean redo() {
        if (acts.futureCount == 0) {
            return denied(NOTHING_THERE);
        }
        evening.unpack(acts.stepOn(evening.packed()));
        return done();
    }

    public int image() {
        if (noPiece()) {
            return refuse(NONE_SUCH);
        }
        if (acts.imageCount == MOST_IMAGES) {
            return refuse(NO_ROOM);
        }
        return fine(acts.addImage(evening.packed()));
    }

    public boolean back(int image) {
        if (image < 0 || image >= acts.imageCount) {
            return denied(NONE_SUCH);
        }
        evening.unpack(acts.images[image]);
        acts.forgetSteps();
        return done();
    }

    // ---- what is told

    public int part(int p, int what) {
        if (!isPart(p) || what < 0 || what > WHOSE) {
            return refuse(NONE_SUCH);
        }
        return fine(what == WHOSE ? evening.playerOf(p) : told.parts[p][what]);
    }

    public int on(int k, int what) {
        if (!isOn(k) || what < 0 || what > IS_CUT) {
            return refuse(NONE_SUCH);
        }
        if (what == IS_CUT) {
            return fineIf(evening.isCut(k));
        }
        return fine(told.ons[k][what]);
    }

    public int led(int player, int i) throws NoSuchElementException {
        int found = NONE;
        if (isPlayer(player) && i >= 0) {
            found = tonight().inRow(onsOf(player), i);
        }
        if (found == NONE) {
            throw new NoSuchElementException();
        }
        return found;
    }

    public int size(int what) {
        switch (what) {
            case 0:
                return told.partCount;
            case 1:
                return told.sceneCount;
            case 2:
                return told.onCount;
            case 3:
                return told.afterCount;
            case 4:
                return told.sawCount;
            case 5:
                return told.playersTold;
            case 6:
                return acts.pastCount;
            case 7:
                return acts.futureCount;
            case 8:
                return acts.imageCount;
            case 9:
                return tape.count;
            default:
                return NONE;
        }
    }

    public int trouble() {
        return refusal;
    }

    // An ORDER is one int, three bits a scene, the first one highest: so orders
    // compare as ints as they do by numbers of scenes.

    private static int shiftAt(int i) {
        return 3 * (MOST_SCENES - 1 - i);
    }

    private static int sceneAt(int order, int i) {
        return order >> shiftAt(i) & 7;
    }

    private static int swapped(int order, int i, int j) {
        int unlike = sceneAt(order, i) ^ sceneAt(order, j);
        return order ^ unlike << shiftAt(i) ^ unlike << shiftAt(j);
    }

    /** THE TAPE. */
    private static final class Tape {
        final int[] bytes = new int[MOST_BYTES];
        int count = 0;

        boolean hasRoom(int more) {
            return count + more <= MOST_BYTES;
        }

        void add(int four) {
            for (int shift = 24; shift >= 0; shift -= 8) {
                if (count < MOST_BYTES) {
                    bytes[count] = four >> shift & 255;
                    count++;
                }
            }
        }

        int at(int i) {
            return i >= 0 && i < MOST_BYTES ? bytes[i] : 0;
        }
    }

    /** The TOKENS of a text, one after the other. */
    private static final class Tokens {
        static final int END = 0;
        static final int WORD = 1;
        static final int WHOLE = 2;
        static final int SEMICOLON = 3;
        /** A comma too: no LINE has one, so it is a fault of FORM as well. */
        static final int OTHER = 4;

        static final int LONGEST_WORD = 8;
        static final int LONGEST_WHOLE = 3;

        private final Tape tape;
        private int length;
        private int next;
        int sort;
        int place;
        /** A WORD's letters, eight bits each. */
        long letters;
        int number;

        Tokens(Tape tape) {
            this.tape = tape;
        }

        void start(int n) {
            length = n;
            next = 0;
            move();
        }

        void move() {
            while (next < length && tape.at(next) == ' ') {
                next++;
            }
            place = next;
            if (next >= length) {
                sort = END;
            } else if (isLetter(tape.at(next))) {
                takeWord();
            } else if (isDigit(tape.at(next))) {
                takeWhole();
            } else {
                sort = tape.at(next) == ';' ? SEMICOLON : OTHER;
                next++;
            }
        }

        private void takeWord() {
            letters = 0;
            while (next < length && isLetter(tape.at(next))) {
                letters = letters << 8 | tape.at(next);
                next++;
            }
            sort = next - place <= LONGEST_WORD ? WORD : OTHER;
        }

        private void takeWhole() {
            number = 0;
            while (next < length && isDigit(tape.at(next))) {
                number = number * 10 + tape.at(next) - '0';
                next++;
            }
            sort = next - place <= LONGEST_WHOLE ? WHOLE : OTHER;
        }

        boolean isWord(String word) {
            long wanted = 0;
            for (int i = 0; i < word.length(); i++) {
                wanted = wanted << 8 | word.charAt(i);
            }
            return sort == WORD && letters == wanted;
        }

        boolean isName() {
            return sort == WORD && !isWord("piece") && !isWord("part") && !isWord("scene")
                && !isWord("after") && !isWord("on") && !isWord("saw") && !isWord("behind");
        }

        private static boolean isLetter(int c) {
            return c >= 'a' && c <= 'z';
        }

        private static boolean isDigit(int c) {
            return c >= '0' && c <= '9';
        }
    }

    /** Reads a text into a PIECE, up to the first FAULT. */
    private static final class Reader {
        private static final int MOST_TOLD = 8;

        private final Tokens tokens;
        private final long[] partNames = new long[MOST_PARTS];
        private final long[] sceneNames = new long[MOST_SCENES];
        /** What the LINE at hand has told so far, in its order. */
        private final int[] values = new int[MOST_TOLD];
        private int valueCount;
        private Piece piece;
        private int found;
        int place;

        Reader(Tape tape, Piece first) {
            tokens = new Tokens(tape);
            piece = first;
        }

        /** The FAULT of the first n bytes (0: none); its place stands in place. */
        int read(int n, Piece into) {
            piece = into;
            piece.clear();
            found = 0;
            place = NONE;
            tokens.start(n);
            boolean more = line();
            for (int i = 0; i < MOST_BYTES && more && tokens.sort == Tokens.SEMICOLON; i++) {
                tokens.move();
                more = line();
            }
            if (more) {
                checkEnd();
            }
            return found;
        }

        private void checkEnd() {
            if (tokens.sort != Tokens.END) {
                fail(FORM);
            } else if (piece.playersTold == 0 || piece.partCount == 0 || piece.sceneCount == 0) {
                fail(LACKS);
            }
        }

        private boolean fail(int fault) {
            found = fault;
            place = tokens.place;
            return false;
        }

        private boolean line() {
            valueCount = 0;
            if (tokens.isWord("piece")) {
                return piece.playersTold == 0 ? pieceLine() : fail(AGAIN);
            }
            if (tokens.isWord("part")) {
                return piece.partCount < MOST_PARTS ? partLine() : fail(MANY);
            }
            if (tokens.isWord("scene")) {
                return piece.sceneCount < MOST_SCENES ? sceneLine() : fail(MANY);
            }
            if (tokens.isWord("after")) {
                return piece.afterCount < MOST_AFTERS ? afterLine() : fail(MANY);
            }
            if (tokens.isWord("on")) {
                return piece.onCount < MOST_ONS ? onLine() : fail(MANY);
            }
            if (tokens.isWord("saw")) {
                return piece.sawCount < MOST_SAWS ? sawLine() : fail(MANY);
            }
            return fail(FORM);
        }

        private boolean pieceLine() {
            tokens.move();
            boolean is = word("walk") && whole(0, 99) && word("gap") && whole(0, MOST_GAP)
                && word("players") && whole(1, 3);
            if (is) {
                piece.walk = values[0];
                piece.gapTold = values[1];
                piece.playersTold = values[2];
            }
            return is;
        }

        private boolean partLine() {
            tokens.move();
            long name = tokens.letters;
            boolean is = newName() && kind() && (values[0] == BEARDED ? whole(0, 99) : tell(0))
                && word("coat") && whole(0, 9)
                && word("don") && whole(0, 99) && word("doff") && whole(0, 99);
            if (is) {
                partNames[piece.partCount] = name;
                piece.addPart(values);
            }
            return is;
        }

        private boolean kind() {
            int kind = tokens.isWord("plain") ? PLAIN
                : tokens.isWord("beard") ? BEARDED
                : tokens.isWord("puppet") ? PUPPET
                : tokens.isWord("dead") ? DEAD : NONE;
            if (kind == NONE) {
                return fail(FORM);
            }
            tokens.move();
            return tell(kind);
        }

        private boolean sceneLine() {
            tokens.move();
            long name = tokens.letters;
            boolean is = newName() && word("lasts") && whole(1, 500);
            if (is) {
                sceneNames[piece.sceneCount] = name;
                piece.lasts[piece.sceneCount] = values[0];
                piece.sceneCount++;
            }
            return is;
        }

        private boolean afterLine() {
            tokens.move();
            return oldName(sceneNames, piece.sceneCount) && secondScene();
        }

        /** The second SCENE of an after: its FAULTS all stand at it. */
        private boolean secondScene() {
            if (!tokens.isName()) {
                return fail(FORM);
            }
            int first = values[0];
            int second = find(sceneNames, piece.sceneCount);
            if (second == NONE) {
                return fail(UNTOLD);
            }
            if (second == first) {
                return fail(AGAIN);
            }
            piece.addAfter(first, second);
            if (!piece.hasOrder()) {
                return fail(CIRCLE);
            }
            tokens.move();
            return true;
        }

        private boolean onLine() {
            tokens.move();
            if (!oldName(partNames, piece.partCount) || !oldName(sceneNames, piece.sceneCount)) {
                return false;
            }
            int lasts = piece.lasts[values[1]];
            boolean is = whole(0, lasts - 1) && word("to") && whole(values[2] + 1, lasts)
                && side() && side();
            if (is) {
                boolean behind = tokens.isWord("behind");
                if (behind) {
                    tokens.move();
                }
                piece.addOn(values, behind);
            }
            return is;
        }

        private boolean sawLine() {
            tokens.move();
            boolean is = oldName(partNames, piece.partCount) && whole(0, 999) && side();
            if (is) {
                piece.addSaw(values);
            }
            return is;
        }

        private boolean tell(int value) {
            if (valueCount < MOST_TOLD) {
                values[valueCount] = value;
                valueCount++;
            }
            return true;
        }

        private boolean word(String word) {
            if (!tokens.isWord(word)) {
                return fail(FORM);
            }
            tokens.move();
            return true;
        }

        private boolean whole(int least, int most) {
            if (tokens.sort != Tokens.WHOLE) {
                return fail(FORM);
            }
            int number = tokens.number;
            if (number < least || number > most) {
                return fail(BOUNDS);
            }
            tokens.move();
            return tell(number);
        }

        private boolean side() {
            int side = tokens.isWord("left") ? LEFT : tokens.isWord("right") ? RIGHT : NONE;
            if (side == NONE) {
                return fail(FORM);
            }
            tokens.move();
            return tell(side);
        }

        private boolean newName() {
            if (!tokens.isName()) {
                return fail(FORM);
            }
            if (find(partNames, piece.partCount) != NONE
                || find(sceneNames, piece.sceneCount) != NONE) {
                return fail(AGAIN);
            }
            tokens.move();
            return true;
        }

        private boolean oldName(long[] names, int count) {
            if (!tokens.isName()) {
                return fail(FORM);
            }
            int at = find(names, count);
            if (at == NONE) {
                return fail(UNTOLD);
            }
            tokens.move();
            return tell(at);
        }

        private int find(long[] names, int count) {
            for (int i = 0; i < count && i < names.length; i++) {
                if (names[i] == tokens.letters) {
                    return i;
                }
            }
            return NONE;
        }
    }

    /** What a text tells. */
    private static final class Piece {
        int walk;
        int gapTold;
        /** 0 as long as there is no LINE of the piece itself. */
        int playersTold;
        int partCount;
        int sceneCount;
        int afterCount;
        int onCount;
        int sawCount;
        int orderCount;
        int behindOnes;
        /** Of puppets, but not behind. */
        int puppetOnes;
        /** Of dead ones, but not behind. */
        int deadOnes;
        final int[][] parts = new int[MOST_PARTS][PART_ROW];
        final int[][] ons = new int[MOST_ONS][ON_ROW];
        final int[][] saws = new int[MOST_SAWS][SAW_ROW];
        final int[] lasts = new int[MOST_SCENES];
        /** Of each scene the bits of those that come ahead of it. */
        final int[] ahead = new int[MOST_SCENES];
        /** Of each part the bits of its APPEARANCES. */
        final int[] onsOfPart = new int[MOST_PARTS];
        final int[] orderList = new int[MOST_ORDERS];

        void clear() {
            walk = 0;
            gapTold = 0;
            playersTold = 0;
            partCount = 0;
            sceneCount = 0;
            afterCount = 0;
            onCount = 0;
            sawCount = 0;
            orderCount = 0;
            behindOnes = 0;
            puppetOnes = 0;
            deadOnes = 0;
            Arrays.fill(ahead, 0);
            Arrays.fill(onsOfPart, 0);
        }

        /** Of kind, beard, coat, don, doff, as the LINE tells them. */
        void addPart(int[] values) {
            int[] row = parts[partCount];
            row[KIND] = values[0];
            row[BEARD] = values[1];
            row[COAT] = values[2];
            row[DON] = values[3];
            row[DOFF] = values[4];
            partCount++;
        }

        void addAfter(int first, int second) {
            ahead[second] |= 1 << first;
            afterCount++;
        }

        /** Of part, scene, from, to, in, off, as the LINE tells them. */
        void addOn(int[] values, boolean behind) {
            int[] row = ons[onCount];
            row[OF_PART] = values[0];
            row[OF_SCENE] = values[1];
            row[BEHIND] = behind ? 1 : 0;
            row[COMES_IN] = values[4];
            row[GOES_OFF] = values[5];
            row[FROM] = values[2];
            row[TILL] = values[3];
            int bit = 1 << onCount;
            int kind = parts[values[0]][KIND];
            if (behind) {
                behindOnes |= bit;
            } else if (kind == PUPPET) {
                puppetOnes |= bit;
            } else if (kind == DEAD) {
                deadOnes |= bit;
            }
            onsOfPart[values[0]] |= bit;
            onCount++;
        }

        /** Of part, time, side. */
        void addSaw(int[] values) {
            int[] row = saws[sawCount];
            row[SAW_PART] = values[0];
            row[SAW_TIME] = values[1];
            row[SAW_SIDE] = values[2];
            sawCount++;
        }

        int allParts() {
            return (1 << partCount) - 1;
        }

        int allOns() {
            return (1 << onCount) - 1;
        }

        int onsOfParts(int some) {
            int bits = 0;
            for (int p = 0; p < partCount; p++) {
                if ((some >> p & 1) == 1) {
                    bits |= onsOfPart[p];
                }
            }
            return bits;
        }

        /** CHANGE; a part that is ready (NONE: no part) is put on and off in no time. */
        int changeTime(int part, int other, int ready) {
            if (part == other) {
                return 0;
            }
            int doff = part == ready ? 0 : parts[part][DOFF];
            int don = other == ready ? 0 : parts[other][DON] + parts[other][BEARD];
            int higher = parts[other][COAT] - parts[part][COAT];
            if (higher > 0) {
                return don;
            }
            return higher < 0 ? doff : doff + don;
        }

        boolean doesWalk(int on, int other) {
            return ons[on][GOES_OFF] != ons[other][COMES_IN];
        }

        int needTime(int on, int other, int ready) {
            int time = changeTime(ons[on][OF_PART], ons[other][OF_PART], ready);
            return doesWalk(on, other) ? time + walk : time;
        }

        boolean hasOrder() {
            int placed = 0;
            for (int round = 0; round < sceneCount; round++) {
                for (int s = 0; s < sceneCount; s++) {
                    if ((ahead[s] & ~placed) == 0) {
                        placed |= 1 << s;
                    }
                }
            }
            return placed == (1 << sceneCount) - 1;
        }

        boolean isOrder(int order) {
            int placed = 0;
            for (int i = 0; i < sceneCount; i++) {
                int s = sceneAt(order, i);
                if (s >= sceneCount || (ahead[s] & ~placed) != 0) {
                    return false;
                }
                placed |= 1 << s;
            }
            return true;
        }

        /** All ORDERS, by numbers of scenes. */
        void listOrders() {
            orderCount = 0;
            placeScenes(0, 0, 0);
        }

        private void placeScenes(int count, int placed, int order) {
            if (count >= sceneCount) {
                if (orderCount < MOST_ORDERS) {
                    orderList[orderCount] = order;
                    orderCount++;
                }
                return;
            }
            for (int s = 0; s < sceneCount; s++) {
                if ((placed >> s & 1) == 0 && (ahead[s] & ~placed) == 0) {
                    placeScenes(count + 1, placed | 1 << s, order | s << shiftAt(count));
                }
            }
        }
    }

    /** THE EVENING: an ORDER, a CAST (three bits a part), CUT ones (bits). */
    private static final class Evening {
        int order = 0;
        private int givenTo = 0;
        int cutOnes = 0;

        void start(int firstOrder) {
            order = firstOrder;
            givenTo = 0;
            cutOnes = 0;
        }

        int playerOf(int part) {
            return givenTo >> 3 * part & 7;
        }

        void give(int part, int player) {
            givenTo ^= (playerOf(part) ^ player) << 3 * part;
        }

        int partsOf(int player, int partCount) {
            int parts = 0;
            for (int p = 0; p < partCount; p++) {
                if (playerOf(p) == player) {
                    parts |= 1 << p;
                }
            }
            return parts;
        }

        boolean isCut(int on) {
            return (cutOnes >> on & 1) == 1;
        }

        /** All of it in one long, by which it is kept. */
        long packed() {
            return (long) order << 48 | (long) givenTo << 16 | cutOnes;
        }

        void unpack(long kept) {
            order = (int) (kept >> 48 & 32767);
            givenTo = (int) (kept >> 16 & 2097151);
            cutOnes = (int) (kept & 16383);
        }
    }

    /** Evenings that are kept: to go back to, on to, and as images. */
    private static final class Acts {
        private final long[] past = new long[MOST_KEPT];
        int pastCount = 0;
        private final long[] future = new long[MOST_KEPT];
        int futureCount = 0;
        final long[] images = new long[MOST_IMAGES];
        int imageCount = 0;

        void clear() {
            forgetSteps();
            imageCount = 0;
        }

        void forgetSteps() {
            pastCount = 0;
            futureCount = 0;
        }

        /** An ACT comes: the evening ahead of it is kept, the oldest one goes. */
        void keep(long evening) {
            if (pastCount == MOST_KEPT) {
                System.arraycopy(past, 1, past, 0, MOST_KEPT - 1);
                pastCount--;
            }
            past[pastCount] = evening;
            pastCount++;
            futureCount = 0;
        }

        long stepBack(long evening) {
            if (pastCount == 0 || futureCount == MOST_KEPT) {
                return evening;
            }
            future[futureCount] = evening;
            futureCount++;
            pastCount--;
            return past[pastCount];
        }

        long stepOn(long evening) {
            if (futureCount == 0 || pastCount == MOST_KEPT) {
                return evening;
            }
            past[pastCount] = evening;
            pastCount++;
            futureCount--;
            return future[futureCount];
        }

        int addImage(long evening) {
            if (imageCount == MOST_IMAGES) {
                return NONE;
            }
            images[imageCount] = evening;
            imageCount++;
            return imageCount - 1;
        }
    }

    /** Sets of up to seven, some of which one player can be; what a set answers is kept. */
    private abstract static class Groups {
        private static final int CAN = 1;
        private static final int CANNOT = 2;

        private final int[] known = new int[SETS];

        abstract boolean fits(int set);

        final void forget() {
            Arrays.fill(known, 0);
        }

        final boolean good(int set) {
            if (set < 0 || set >= SETS) {
                return false;
            }
            if (known[set] == 0) {
                known[set] = fits(set) ? CAN : CANNOT;
            }
            return known[set] == CAN;
        }

        /** The fewest players that can be all of a set; NEVER. */
        final int fewestFor(int set) {
            for (int players = 0; players <= MOST_PLAYERS; players++) {
                if (splits(this, set, players)) {
                    return players;
                }
            }
            return NEVER;
        }

        /**
         * Whether a set falls apart into so many good ones at most. A part of a good
         * set need not be good (a part between two others may save time), so all
         * ways are tried.
         */
        private static boolean splits(Groups sets, int rest, int players) {
            if (rest == 0) {
                return true;
            }
            if (players <= 1) {
                return players == 1 && sets.good(rest);
            }
            int first = rest & -rest;
            int others = rest ^ first;
            for (int some = others; some > 0; some = some - 1 & others) {
                if (sets.good(first | some) && splits(sets, others ^ some, players - 1)) {
                    return true;
                }
            }
            return sets.good(first) && splits(sets, others, players - 1);
        }
    }

    /** An ORDER with its seconds, and what a player can do by it. The sets are of parts. */
    private static final class Night extends Groups {
        private Piece piece;
        private final int[][] needs = new int[MOST_ONS][MOST_ONS];
        /** Of each APPEARANCE the bits of the others that it MEETS. */
        private final int[] meetings = new int[MOST_ONS];
        final int[] sceneBegins = new int[MOST_SCENES];
        final int[] onBegins = new int[MOST_ONS];
        final int[] onEnds = new int[MOST_ONS];
        /** The APPEARANCES in time, then by numbers. */
        final int[] row = new int[MOST_ONS];
        private boolean isSet = false;
        private int order = 0;
        private int gapSeconds = 0;
        private int cutOnes = 0;
        /** Grows with each new evening, so that others know what they keep is old. */
        int stamp = 0;

        Night(Piece piece) {
            this.piece = piece;
        }

        void take(Piece newPiece, int ready) {
            piece = newPiece;
            isSet = false;
            for (int a = 0; a < piece.onCount; a++) {
                for (int b = 0; b < piece.onCount; b++) {
                    needs[a][b] = piece.needTime(a, b, ready);
                }
            }
        }

        void set(int newOrder, int newGap, int newCut) {
            if (isSet && order == newOrder && gapSeconds == newGap && cutOnes == newCut) {
                return;
            }
            isSet = true;
            order = newOrder;
            gapSeconds = newGap;
            cutOnes = newCut;
            stamp++;
            setTimes();
            sortRow();
            findMeetings();
            forget();
        }

        private void setTimes() {
            int time = 0;
            for (int i = 0; i < piece.sceneCount; i++) {
                int s = sceneAt(order, i);
                if (s < MOST_SCENES) {
                    sceneBegins[s] = time;
                    time += piece.lasts[s] + gapSeconds;
                }
            }
            for (int k = 0; k < piece.onCount; k++) {
                int begin = sceneBegins[piece.ons[k][OF_SCENE]];
                onBegins[k] = begin + piece.ons[k][FROM];
                onEnds[k] = begin + piece.ons[k][TILL];
            }
        }

        private void sortRow() {
            for (int k = 0; k < piece.onCount; k++) {
                int at = k;
                while (at > 0 && onBegins[row[at - 1]] > onBegins[k]) {
                    row[at] = row[at - 1];
                    at--;
                }
                row[at] = k;
            }
        }

        private void findMeetings() {
            Arrays.fill(meetings, 0);
            for (int a = 0; a < piece.onCount; a++) {
                for (int b = 0; b < a; b++) {
                    if (doMeet(a, b)) {
                        meetings[a] |= 1 << b;
                        meetings[b] |= 1 << a;
                    }
                }
            }
        }

        boolean doMeet(int a, int b) {
            return onBegins[a] < onEnds[b] && onBegins[b] < onEnds[a];
        }

        /** The BODILY ones of some that are there; of a dead one all or none must be. */
        int bodilyOf(int there) {
            int bodily = there & ~piece.behindOnes & ~piece.puppetOnes & ~piece.deadOnes;
            int dead = there & piece.deadOnes;
            for (int r = 0; r < piece.onCount && dead != 0; r++) {
                int k = row[r];
                if ((dead >> k & 1) == 1) {
                    bodily |= 1 << k;
                    dead &= ~piece.onsOfPart[piece.ons[k][OF_PART]];
                }
            }
            return bodily;
        }

        /** Whether one player CAN be these APPEARANCES. */
        boolean canBe(int there) {
            int behind = there & piece.behindOnes;
            int puppets = there & piece.puppetOnes;
            int bodily = bodilyOf(there);
            int last = NONE;
            for (int r = 0; r < piece.onCount; r++) {
                int k = row[r];
                int bit = 1 << k;
                if ((behind & bit) != 0 && (meetings[k] & (behind | bodily)) != 0) {
                    return false;
                }
                if ((puppets & bit) != 0 && (meetings[k] & puppets) != 0) {
                    return false;
                }
                if ((bodily & bit) != 0) {
                    if (last != NONE && spare(last, k) < 0) {
                        return false;
                    }
                    last = k;
                }
            }
            return true;
        }

        /** Seconds more than NEED from one to the next; below 0 if they MEET, too. */
        private int spare(int on, int next) {
            return onBegins[next] - onEnds[on] - needs[on][next];
        }

        boolean fits(int parts) {
            return canBe(piece.onsOfParts(parts) & ~cutOnes);
        }

        int slackOf(int there) {
            int bodily = bodilyOf(there);
            int last = NONE;
            boolean any = false;
            int least = SLACK_WITHOUT;
            for (int r = 0; r < piece.onCount; r++) {
                int k = row[r];
                if ((bodily >> k & 1) == 1) {
                    if (last != NONE) {
                        int more = spare(last, k);
                        least = any ? Math.min(least, more) : more;
                        any = true;
                    }
                    last = k;
                }
            }
            return least;
        }

        /** Between BODILY ones: 1 walks, 2 how often parts are unlike, 3 seconds of CHANGES. */
        int changesOf(int there, int what) {
            int bodily = bodilyOf(there);
            int last = NONE;
            int sum = 0;
            for (int r = 0; r < piece.onCount; r++) {
                int k = row[r];
                if ((bodily >> k & 1) == 1) {
                    if (last != NONE) {
                        sum += changeOf(last, k, what);
                    }
                    last = k;
                }
            }
            return sum;
        }

        private int changeOf(int on, int next, int what) {
            if (what == 1) {
                return piece.doesWalk(on, next) ? 1 : 0;
            }
            int part = piece.ons[on][OF_PART];
            int other = piece.ons[next][OF_PART];
            if (what == 2) {
                return part != other ? 1 : 0;
            }
            return piece.changeTime(part, other, NONE);
        }

        int seconds(int some) {
            int sum = 0;
            for (int k = 0; k < piece.onCount; k++) {
                if ((some >> k & 1) == 1) {
                    sum += onEnds[k] - onBegins[k];
                }
            }
            return sum;
        }

        /** The i-th of some, in time, then by numbers; NONE. */
        int inRow(int some, int i) {
            int left = i;
            for (int r = 0; r < piece.onCount; r++) {
                int k = row[r];
                if ((some >> k & 1) == 1) {
                    if (left == 0) {
                        return k;
                    }
                    left--;
                }
            }
            return NONE;
        }

        /** The least bits of so many APPEARANCES without which these parts can be one's; NONE. */
        int leastCut(int parts, int count) {
            return without(piece.onsOfParts(parts) & ~cutOnes, count, piece.onCount);
        }

        /** The highest one that goes is tried upwards, so the first find has the least bits. */
        private int without(int there, int count, int below) {
            if (count <= 0) {
                return canBe(there) ? 0 : NONE;
            }
            for (int k = count - 1; k < below; k++) {
                if ((there >> k & 1) == 1) {
                    int rest = without(there & ~(1 << k), count - 1, k);
                    if (rest != NONE) {
                        return rest | 1 << k;
                    }
                }
            }
            return NONE;
        }

        int allParts() {
            return piece.allParts();
        }

        int partCount() {
            return piece.partCount;
        }

        int playersTold() {
            return piece.playersTold;
        }
    }

    /** Who plays whom in a night, in how many ways, and with what cut. */
    private static final class Casting {
        /** How many are cut stands above the bits of those that are. */
        private static final int ONE_CUT = 1 << MOST_ONS;
        private static final int TOO_MANY = ONE_CUT * (MOST_CUTS + 1);

        private final Night night;
        private final int[] groups = new int[MOST_PLAYERS];
        private final int[] players = new int[MOST_PARTS];
        private int castStamp = 0;
        private boolean hasCast = false;
        private final int[] leastCuts = new int[SETS];
        private int cutStamp = 0;
        private int best = TOO_MANY;

        Casting(Night night) {
            this.night = night;
        }

        /** Who plays a part by the first CAST of the fewest; NEVER. */
        int playerOf(int part) {
            if (castStamp != night.stamp) {
                castStamp = night.stamp;
                int fewest = night.fewestFor(night.allParts());
                Arrays.fill(groups, 0);
                hasCast = fewest != NEVER && gives(0, 0, fewest);
            }
            return hasCast && part >= 0 && part < MOST_PARTS ? players[part] : NEVER;
        }

        /** Gives the parts from one on away, by the least players first. */
        private boolean gives(int part, int used, int most) {
            if (part >= night.partCount()) {
                return allGood(used);
            }
            for (int p = 0; p <= used && p < most && p < MOST_PLAYERS; p++) {
                groups[p] |= 1 << part;
                players[part] = p;
                if (gives(part + 1, Math.max(used, p + 1), most)) {
                    return true;
                }
                groups[p] ^= 1 << part;
            }
            return false;
        }

        private boolean allGood(int used) {
            for (int p = 0; p < used; p++) {
                if (!night.good(groups[p])) {
                    return false;
                }
            }
            return true;
        }

        int castsFor(int count) {
            return ways(night.allParts(), count);
        }

        private int ways(int rest, int count) {
            if (count <= 1) {
                return night.good(rest) ? 1 : 0;
            }
            int sum = night.good(0) ? ways(rest, count - 1) : 0;
            for (int some = rest; some > 0; some = some - 1 & rest) {
                if (night.good(some)) {
                    sum += ways(rest ^ some, count - 1);
                }
            }
            return sum;
        }

        int fewestCuts() {
            findCuts();
            return best >= TOO_MANY ? NEVER : best / ONE_CUT;
        }

        int cutBits() {
            findCuts();
            return best >= TOO_MANY ? NEVER : best % ONE_CUT;
        }

        private void findCuts() {
            if (cutStamp == night.stamp) {
                return;
            }
            cutStamp = night.stamp;
            Arrays.fill(leastCuts, TOO_MANY);
            best = TOO_MANY;
            for (int count = 0; count <= MOST_CUTS && best >= TOO_MANY; count++) {
                addCuts(count);
                int sum = cheapest(night.allParts(), night.playersTold());
                // A dearer sum may yet be beaten by one of its size, with sets not looked at.
                if (sum < (count + 1) * ONE_CUT) {
                    best = sum;
                }
            }
        }

        private void addCuts(int count) {
            int all = night.allParts();
            for (int set = 0; set <= all && set < SETS; set++) {
                if (leastCuts[set] == TOO_MANY) {
                    int bits = night.leastCut(set, count);
                    if (bits != NONE) {
                        leastCuts[set] = count * ONE_CUT + bits;
                    }
                }
            }
        }

        /** Players' APPEARANCES are never the same ones, so what is cut of each adds up. */
        private int cheapest(int rest, int count) {
            if (rest == 0) {
                return 0;
            }
            if (count <= 1) {
                return count == 1 ? leastCuts[rest] : TOO_MANY;
            }
            int first = rest & -rest;
            int others = rest ^ first;
            int least = Math.min(TOO_MANY, leastCuts[first] + cheapest(others, count - 1));
            for (int some = others; some > 0; some = some - 1 & others) {
                int one = leastCuts[first | some];
                if (one < least) {
                    least = Math.min(least, one + cheapest(others ^ some, count - 1));
                }
            }
            return least;
        }
    }

    /** Tries other orders, gaps and parts made ready, in a night of its own. */
    private static final class Search {
        private Piece piece;
        private final Night trial;
        private final int[] steps = new int[MOST_ORDERS];
        private int bestCut = NONE;
        private int bestFewest = NEVER;
        int bestOrder = 0;

        Search(Piece piece) {
            this.piece = piece;
            trial = new Night(piece);
        }

        void take(Piece newPiece) {
            piece = newPiece;
            bestCut = NONE;
            trial.take(piece, NONE);
        }

        /** FEWEST of all; its ORDER stands in bestOrder. */
        int bestOfAll(int cut) {
            if (bestCut == cut) {
                return bestFewest;
            }
            bestCut = cut;
            int best = MOST_PLAYERS + 1;
            for (int i = 0; i < piece.orderCount && best > 1; i++) {
                int order = piece.orderList[i];
                trial.set(order, piece.gapTold, cut);
                for (int m = best - 1; m > 0 && Groups.splits(trial, piece.allParts(), m); m--) {
                    best = m;
                    bestOrder = order;
                }
            }
            bestFewest = best > MOST_PLAYERS ? NEVER : best;
            return bestFewest;
        }

        int fewestIfReady(int part, int order, int cut) {
            trial.take(piece, part);
            trial.set(order, piece.gapTold, cut);
            int fewest = trial.fewestFor(piece.allParts());
            trial.take(piece, NONE);
            return fewest;
        }

        /** Whether as many players as told do. */
        private boolean goes(int order, int gap, int cut) {
            trial.set(order, gap, cut);
            return Groups.splits(trial, piece.allParts(), piece.playersTold);
        }

        /** A longer gap never makes less possible, so the gaps are halved. */
        int leastGap(int order, int cut) {
            if (!goes(order, MOST_GAP, cut)) {
                return NEVER;
            }
            int tooShort = NONE;
            for (int step = 64; step > 0; step /= 2) {
                int tried = tooShort + step;
                if (tried < MOST_GAP && !goes(order, tried, cut)) {
                    tooShort = tried;
                }
            }
            return tooShort + 1;
        }

        int fewestSwaps(int order, int cut) {
            for (int i = 0; i < piece.orderCount; i++) {
                steps[i] = piece.orderList[i] == order ? 0 : NONE;
            }
            for (int count = 0; count < MOST_ORDERS; count++) {
                for (int i = 0; i < piece.orderCount; i++) {
                    if (steps[i] == count && goes(piece.orderList[i], piece.gapTold, cut)) {
                        return count;
                    }
                }
                if (!reachMore(count)) {
                    return NEVER;
                }
            }
            return NEVER;
        }

        private boolean reachMore(int count) {
            boolean more = false;
            for (int i = 0; i < piece.orderCount; i++) {
                for (int j = 0; steps[i] == count && j < piece.orderCount; j++) {
                    if (steps[j] == NONE && isOneSwap(piece.orderList[i], piece.orderList[j])) {
                        steps[j] = count + 1;
                        more = true;
                    }
                }
            }
            return more;
        }

        /** Orders that are unlike at two places only are one swap apart. */
        private boolean isOneSwap(int order, int other) {
            int unlike = 0;
            for (int i = 0; i < piece.sceneCount; i++) {
                if (sceneAt(order, i) != sceneAt(other, i)) {
                    unlike++;
                }
            }
            return unlike == 2;
        }
    }

    /** What was seen; the sets are of those. */
    private static final class Sightings extends Groups {
        private Piece piece;
        private final int[] row = new int[MOST_SAWS];

        Sightings(Piece piece) {
            this.piece = piece;
        }

        void take(Piece newPiece) {
            piece = newPiece;
            forget();
            for (int s = 0; s < piece.sawCount; s++) {
                int at = s;
                while (at > 0 && timeOf(row[at - 1]) > timeOf(s)) {
                    row[at] = row[at - 1];
                    at--;
                }
                row[at] = s;
            }
        }

        private int timeOf(int saw) {
            return piece.saws[saw][SAW_TIME];
        }

        boolean fits(int set) {
            int last = NONE;
            for (int r = 0; r < piece.sawCount; r++) {
                int s = row[r];
                if ((set >> s & 1) == 1) {
                    if (last != NONE && timeOf(s) - timeOf(last) < between(last, s)) {
                        return false;
                    }
                    last = s;
                }
            }
            return true;
        }

        private int between(int saw, int other) {
            int[] a = piece.saws[saw];
            int[] b = piece.saws[other];
            int time = piece.changeTime(a[SAW_PART], b[SAW_PART], NONE);
            return a[SAW_SIDE] != b[SAW_SIDE] ? time + piece.walk : time;
        }
    }
}
