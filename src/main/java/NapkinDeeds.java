import java.util.Arrays;
import java.util.NoSuchElementException;

public final class NapkinDeeds {
    public static final int NONE = -1;

    private static final int TAPE_ROOM = 900;
    private static final int FEED_BYTES = 20;
    private static final int MOST_CELLS = 6;
    private static final int MOST_GUESTS = 4;
    private static final int MOST_MARK = 99;
    private static final int MARKS = 100;
    private static final int MOST_NESTED = 6;
    private static final int MOST_VALUE = 1000000;
    private static final int MOST_UNDONE = 10;
    private static final int MOST_FOLDS = 5;
    private static final int MOST_SEEN_FOLDS = 4;
    private static final int MOST_TIMES = 30;
    private static final int WAYS_OF_A_LINE = 4;
    private static final int TRAYS = 4;
    private static final int TRAY_ROOM = 30;
    private static final int IMAGES = 3;

    private static final int DEED_UNFOLD = 100;
    private static final int DEED_SHAKE = 200;
    private static final int DEED_FRONT = 1000;
    private static final int DEED_BACK = 2000;
    private static final int DEED_FACE_ROOM = 600;
    private static final int CAN_BE = 0;
    private static final int NO_SUCH = 1;
    private static final int NO_FOLD = 2;

    private static final int FAULT_NO_TOKEN = 1;
    private static final int FAULT_STANDS_WRONG = 2;
    private static final int FAULT_BOUNDS = 3;
    private static final int FAULT_TOO_MANY = 4;

    /* A law is kept as a row of codes, operands first: below FACT numbers, then facts, from OP_NOT on signs. */
    private static final int FACT = 1000;
    private static final int FACT_WIDE = 0;
    private static final int FACT_HIGH = 1;
    private static final int FACT_FOLDS = 2;
    private static final int FACT_TOP = 3;
    private static final int FACT_UNDER = 4;
    private static final int FACT_HIDDEN = 5;
    private static final int FACT_GUEST = 6;
    private static final int FACT_WANT = 7;
    private static final int FACTS = 8;
    private static final int OP_NOT = 2000;
    private static final int OP_AND = 2001;
    private static final int OP_OR = 2002;
    private static final int OP_PLUS = 2003;
    private static final int OP_MINUS = 2004;
    private static final int OP_TIMES = 2005;
    private static final int OP_EQUAL = 2006;
    private static final int OP_LESS = 2007;
    private static final int OP_MORE = 2008;

    /* What a search weighs; from 0 on it is how much that guest likes it. */
    private static final int BY_WORTH = -1;
    private static final int BY_LEAST_LIKING = -2;

    private static final int ORDERS = 720;
    private static final int CREASE_ROWS = 243;

    private final byte[] tape = new byte[TAPE_ROOM];
    private int taped = 0;
    private int fault = 0;
    private int faultPlace = NONE;
    private final Reader reader = new Reader();
    private final Table table = new Table();
    private final Table[] pictures = new Table[IMAGES];
    private final Tray[] trays = new Tray[TRAYS];
    private final Scale scale = new Scale();
    private final Ways waysOn = new Ways();
    private final Ways waysFromFlat = new Ways();
    private final Lay lying = new Lay();
    private final Lay folding = new Lay();
    private final Moment trial = new Moment();
    private final int[] places = new int[MOST_CELLS];
    private final int[] likesNow = new int[MOST_GUESTS];
    private final int[] tally = new int[MARKS];
    private final int[] met = new int[ORDERS];

    public NapkinDeeds() {
        for (int i = 0; i < pictures.length; i++) {
            pictures[i] = new Table();
        }
        for (int i = 0; i < trays.length; i++) {
            trays[i] = new Tray();
        }
    }

    // ---- the napkin

    public int feed(int a, int b, int c, int d, int e) {
        if (taped + FEED_BYTES > TAPE_ROOM) {
            return NONE;
        }
        putOnTape(a);
        putOnTape(b);
        putOnTape(c);
        putOnTape(d);
        putOnTape(e);
        return taped;
    }

    private void putOnTape(int bytes) {
        for (int shift = 24; shift >= 0; shift -= 8) {
            if (taped >= 0 && taped < tape.length) {
                tape[taped] = (byte) (bytes >> shift);
                taped++;
            }
        }
    }

    public int napkin(int n) throws IllegalArgumentException {
        if (n < 0 || n > taped) {
            throw new IllegalArgumentException("so many bytes are not on the tape");
        }
        Napkin told = reader.read(tape, n);
        taped = 0;
        fault = reader.fault;
        faultPlace = reader.place;
        if (told == null) {
            return -10 - fault;
        }
        table.spread(told);
        return told.lines;
    }

    public int fault(int what) {
        if (what == 0) {
            return fault;
        }
        return what == 1 ? faultPlace : NONE;
    }

    public int cell(int c, int what) throws NoSuchElementException, IllegalArgumentException {
        if (!isCell(c)) {
            throw new NoSuchElementException("no such cell");
        }
        if (what < 0 || what > 4) {
            throw new IllegalArgumentException("nothing such is told of a cell");
        }
        Lay lay = layNow();
        switch (what) {
            case 0: return table.now.markOf(c, 0);
            case 1: return table.now.markOf(c, 1);
            case 2: return lay.columnOf(c);
            case 3: return lay.placeOf(c) - lay.startOf(lay.columnOf(c));
            default: return lay.isUp(lay.placeOf(c)) ? 1 : 0;
        }
    }

    public int high(int column) throws NoSuchElementException {
        return layWith(column).heightOf(column);
    }

    public int layer(int column, int layer) throws NoSuchElementException, IllegalArgumentException {
        Lay lay = layWith(column);
        if (layer < 0) {
            throw new IllegalArgumentException("a layer below the lowest one");
        }
        return layer < lay.heightOf(column) ? lay.cellAt(lay.startOf(column) + layer) : NONE;
    }

    public int above(int column) throws NoSuchElementException {
        return layWith(column).markAbove(column, table.now.marks);
    }

    public int beneath(int column) throws NoSuchElementException {
        return layWith(column).markBeneath(column, table.now.marks);
    }

    public int crease(int k) throws NoSuchElementException {
        if (k < 0 || k >= table.napkin.cells - 1) {
            throw new NoSuchElementException("no such crease");
        }
        return layNow().creaseAt(k);
    }

    public int folded(int k) throws IllegalArgumentException {
        if (k < 0) {
            throw new IllegalArgumentException("a fold before the first");
        }
        return table.now.foldAt(k);
    }

    public int worth() {
        viewNow();
        return worthInView();
    }

    public boolean holds() {
        viewNow();
        return holdsInView();
    }

    public int likes(int guest) throws NoSuchElementException {
        if (guest < 0 || guest >= table.napkin.guests) {
            throw new NoSuchElementException("no such guest");
        }
        viewNow();
        return likingInView(guest);
    }

    private boolean isCell(long c) {
        return c >= 0 && c < table.napkin.cells;
    }

    private Lay layWith(int column) {
        Lay lay = layNow();
        if (column < 0 || column >= lay.wide) {
            throw new NoSuchElementException("no such column");
        }
        return lay;
    }

    private Lay layNow() {
        lying.flatten(table.napkin.cells);
        for (int i = 0; i < table.now.folds; i++) {
            int deed = table.now.foldAt(i);
            folding.take(lying);
            lying.foldFrom(folding, deed / 10, deed % 10);
        }
        return lying;
    }

    private void viewNow() {
        scale.view(layNow(), table.now.marks, table.now.folds);
    }

    private void viewFlat() {
        lying.flatten(table.napkin.cells);
        scale.view(lying, table.now.marks, 0);
    }

    private boolean holdsInView() {
        return scale.weigh(table.napkin.holdsLaw) != 0;
    }

    private int worthInView() {
        return scale.weigh(table.napkin.worthLaw);
    }

    private int likingInView(int guest) {
        scale.serve(guest, table.napkin.wantOf(guest));
        return scale.weigh(table.napkin.likesLaw);
    }

    private int leastLikingInView() {
        int least = 0;
        for (int guest = 0; guest < table.napkin.guests; guest++) {
            int liking = likingInView(guest);
            if (guest == 0 || liking < least) {
                least = liking;
            }
        }
        return least;
    }

    // ---- deeds

    public int fold(int line, int way) {
        int columns = columnsOf(table.now);
        if (line < 1 || line >= columns || way < 0 || way >= WAYS_OF_A_LINE) {
            return -NO_SUCH;
        }
        doDeed(10 * line + way);
        return columnsOf(table.now);
    }

    public int unfold() throws IllegalStateException {
        needFold();
        doDeed(DEED_UNFOLD);
        return columnsOf(table.now);
    }

    public int shake() throws IllegalStateException {
        needFold();
        int folds = table.now.folds;
        doDeed(DEED_SHAKE);
        return folds;
    }

    public int amend(int c, int face, int mark) throws NoSuchElementException, IllegalArgumentException {
        if (!isCell(c)) {
            throw new NoSuchElementException("no such cell");
        }
        if (face < 0 || face > 1 || mark < 0 || mark > MOST_MARK) {
            throw new IllegalArgumentException("no such face or mark");
        }
        int before = table.now.markOf(c, face);
        doDeed((face == 0 ? DEED_FRONT : DEED_BACK) + MARKS * c + mark);
        return before;
    }

    public int undo(int n) throws IllegalArgumentException {
        if (n < 1 || n > table.pasts) {
            throw new IllegalArgumentException("so many deeds can not be undone");
        }
        table.goBack(n);
        return table.pasts;
    }

    public int judge(int tray, int what)
            throws NoSuchElementException, IllegalStateException, IllegalArgumentException {
        Tray told = trayThere(tray);
        if (what < 0 || what > 3) {
            throw new IllegalArgumentException("nothing such is judged");
        }
        trial.take(table.now);
        int why = CAN_BE;
        int place = 0;
        while (place < told.many && why == CAN_BE) {
            why = tryDeed(told.numberAt(place));
            place++;
        }
        switch (what) {
            case 0: return why == CAN_BE ? NONE : place - 1;
            case 1: return why;
            case 2: return columnsOf(trial);
            default: return trial.folds;
        }
    }

    private int tryDeed(long deed) {
        int why = hindrance(trial, deed);
        if (why == CAN_BE && deed != NONE) {
            trial.change((int) deed);
        }
        return why;
    }

    public int perform(int tray) throws NoSuchElementException, IllegalStateException {
        Tray told = trayThere(tray);
        for (int place = 0; place < told.many; place++) {
            long deed = told.numberAt(place);
            if (hindrance(table.now, deed) != CAN_BE) {
                return place;
            }
            if (deed != NONE) {
                doDeed((int) deed);
            }
        }
        return told.many;
    }

    public int evening(int seed, int times) throws IllegalArgumentException {
        if (times < 1 || times > MOST_TIMES) {
            throw new IllegalArgumentException("not so many times");
        }
        Dice dice = new Dice(seed);
        int could = 0;
        for (int i = 0; i < times; i++) {
            int deed = drawDeed(dice);
            if (hindrance(table.now, deed) == CAN_BE) {
                doDeed(deed);
                could++;
            }
        }
        return could;
    }

    private static int drawDeed(Dice dice) {
        int sort = dice.draw() % 4;
        if (sort == 2) {
            return DEED_UNFOLD;
        }
        if (sort == 3) {
            int c = dice.draw() % 6;
            return DEED_FRONT + MARKS * c + dice.draw() % MARKS;
        }
        int line = 1 + dice.draw() % 5;
        return 10 * line + dice.draw() % 4;
    }

    private void needFold() {
        if (table.now.folds == 0) {
            throw new IllegalStateException("there is no fold");
        }
    }

    private void doDeed(int deed) {
        table.remember();
        table.now.change(deed);
    }

    private int hindrance(Moment moment, long deed) {
        if (deed == NONE) {
            return CAN_BE;
        }
        if (deed == DEED_UNFOLD || deed == DEED_SHAKE) {
            return moment.folds > 0 ? CAN_BE : NO_FOLD;
        }
        if (deed >= 0 && deed < DEED_UNFOLD) {
            long line = deed / 10;
            boolean can = line >= 1 && line < columnsOf(moment) && deed % 10 < WAYS_OF_A_LINE;
            return can ? CAN_BE : NO_SUCH;
        }
        if (deed >= DEED_FRONT && deed < DEED_FRONT + DEED_FACE_ROOM) {
            return isCell((deed - DEED_FRONT) / MARKS) ? CAN_BE : NO_SUCH;
        }
        if (deed >= DEED_BACK && deed < DEED_BACK + DEED_FACE_ROOM) {
            return isCell((deed - DEED_BACK) / MARKS) ? CAN_BE : NO_SUCH;
        }
        return NO_SUCH;
    }

    private int columnsOf(Moment moment) {
        int columns = table.napkin.cells;
        for (int i = 0; i < moment.folds; i++) {
            int line = moment.foldAt(i) / 10;
            columns = Math.max(line, columns - line);
        }
        return columns;
    }

    // ---- on

    public int rows(int n) throws IllegalArgumentException {
        needFoldsOn(n);
        Ways on = growOn();
        int found = 0;
        for (int node = 0; node < on.size && on.depthOf(node) <= n; node++) {
            if (on.depthOf(node) == n) {
                found += on.rowsTo(node);
            }
        }
        return found;
    }

    public int looks(int n) throws IllegalArgumentException {
        needFoldsOn(n);
        Ways on = growOn();
        on.forgetMet();
        int found = 0;
        for (int node = 0; node < on.size && on.depthOf(node) <= n; node++) {
            if (on.meet(node)) {
                found++;
            }
        }
        return found;
    }

    public int soonest(int what) throws IllegalArgumentException {
        if (!asksOfRow(what)) {
            throw new IllegalArgumentException("nothing such is told of a row");
        }
        Ways on = growOn();
        for (int node = 0; node < on.size && on.depthOf(node) <= MOST_FOLDS; node++) {
            viewOn(on, node);
            if (holdsInView()) {
                return rowAnswer(on, node, what);
            }
        }
        return NONE;
    }

    public int holding(int n) throws IllegalArgumentException {
        needFoldsOn(n);
        Ways on = growOn();
        on.forgetMet();
        int found = 0;
        for (int node = 0; node < on.size && on.depthOf(node) <= n; node++) {
            viewOn(on, node);
            if (holdsInView() && on.meet(node)) {
                found++;
            }
        }
        return found;
    }

    public int best(int n, int what) throws IllegalArgumentException {
        if (!isFoldsOn(n) || !asksOfGreatest(what)) {
            throw new IllegalArgumentException("not so many folds, or nothing such is told");
        }
        Ways on = growOn();
        int node = greatestNode(on, n, BY_WORTH);
        return what == 0 ? scoreOn(on, node, BY_WORTH) : greatestAnswer(on, node, what);
    }

    public int reads(int tray, int what)
            throws NoSuchElementException, IllegalStateException, IllegalArgumentException {
        Tray told = trayThere(tray);
        if (!told.tellsSight() || !asksOfRow(what)) {
            throw new IllegalArgumentException("no marks to read, or nothing such is told");
        }
        Ways on = growOn();
        for (int node = 0; node < on.size && on.depthOf(node) <= MOST_FOLDS; node++) {
            if (looksSo(on.layOf(node), told)) {
                return rowAnswer(on, node, what);
            }
        }
        return NONE;
    }

    public int step() {
        Ways on = growOn();
        int node = greatestNode(on, 1, BY_WORTH);
        return on.foldOf(node, 0);
    }

    private static boolean isFoldsOn(int n) {
        return n >= 0 && n <= MOST_FOLDS;
    }

    private static void needFoldsOn(int n) {
        if (!isFoldsOn(n)) {
            throw new IllegalArgumentException("not so many folds");
        }
    }

    private static boolean asksOfRow(int what) {
        return what == 0 || what >= 10 && what <= 14;
    }

    private static boolean asksOfGreatest(int what) {
        return what == 1 || asksOfRow(what);
    }

    private static int rowAnswer(Ways ways, int node, int what) {
        return what == 0 ? ways.depthOf(node) : ways.foldOf(node, what - 10);
    }

    private static int greatestAnswer(Ways ways, int node, int what) {
        return what == 1 ? ways.depthOf(node) : ways.foldOf(node, what - 10);
    }

    private Ways growOn() {
        waysOn.grow(layNow());
        return waysOn;
    }

    private Ways growFromFlat() {
        lying.flatten(table.napkin.cells);
        waysFromFlat.grow(lying);
        return waysFromFlat;
    }

    private void viewOn(Ways on, int node) {
        scale.view(on.layOf(node), table.now.marks, table.now.folds + on.depthOf(node));
    }

    private int scoreOn(Ways on, int node, int by) {
        viewOn(on, node);
        if (by == BY_WORTH) {
            return worthInView();
        }
        return by == BY_LEAST_LIKING ? leastLikingInView() : likingInView(by);
    }

    private int greatestNode(Ways on, int n, int by) {
        int greatest = 0;
        int score = scoreOn(on, 0, by);
        for (int node = 1; node < on.size && on.depthOf(node) <= n; node++) {
            int other = scoreOn(on, node, by);
            if (other > score) {
                greatest = node;
                score = other;
            }
        }
        return greatest;
    }

    private boolean looksSo(Lay lay, Tray told) {
        if (lay.wide != told.many) {
            return false;
        }
        for (int column = 0; column < lay.wide; column++) {
            long mark = told.numberAt(column);
            if (mark != NONE && mark != lay.markAbove(column, table.now.marks)) {
                return false;
            }
        }
        return true;
    }

    // ---- stacks, creases

    public boolean stands(int tray)
            throws NoSuchElementException, IllegalStateException, IllegalArgumentException {
        Tray told = stackIn(tray);
        for (int place = 0; place < told.many; place++) {
            int c = (int) told.numberAt(place);
            if (c >= 0 && c < places.length) {
                places[c] = place;
            }
        }
        for (int c = 0; c < told.many; c++) {
            if (!creaseFits(places, c)) {
                return false;
            }
        }
        return true;
    }

    public int stacks() {
        return standing(places, 0, table.napkin.cells);
    }

    public int stack(int tray)
            throws NoSuchElementException, IllegalStateException, IllegalArgumentException {
        Tray told = stackIn(tray);
        Ways from = growFromFlat();
        for (int node = 0; node < from.size && from.depthOf(node) <= MOST_FOLDS; node++) {
            if (liesInOrder(from.layOf(node), told)) {
                return from.depthOf(node);
            }
        }
        return NONE;
    }

    public int simple() {
        Ways from = growFromFlat();
        Arrays.fill(met, 0);
        int found = 0;
        for (int node = 0; node < from.size && from.depthOf(node) <= MOST_FOLDS; node++) {
            Lay lay = from.layOf(node);
            if (lay.wide <= 1 && meet(lay.orderNumber())) {
                found++;
            }
        }
        return found;
    }

    public int made(int tray)
            throws NoSuchElementException, IllegalStateException, IllegalArgumentException {
        Tray told = creasesIn(tray);
        Ways from = growFromFlat();
        int found = 0;
        for (int node = 0; node < from.size && from.depthOf(node) <= MOST_FOLDS; node++) {
            if (isCreasedSo(from.layOf(node), told)) {
                found += from.rowsTo(node);
            }
        }
        return found;
    }

    public int madeBy(int tray, int k)
            throws NoSuchElementException, IllegalStateException, IllegalArgumentException {
        Tray told = creasesIn(tray);
        if (k < 0) {
            throw new IllegalArgumentException("a fold before the first");
        }
        Ways from = growFromFlat();
        for (int node = 0; node < from.size && from.depthOf(node) <= MOST_FOLDS; node++) {
            if (isCreasedSo(from.layOf(node), told)) {
                return from.foldOf(node, k);
            }
        }
        return NONE;
    }

    public int patterns() {
        Ways from = growFromFlat();
        Arrays.fill(met, 0);
        int found = 0;
        for (int node = 0; node < from.size && from.depthOf(node) <= MOST_FOLDS; node++) {
            int number = from.layOf(node).creaseNumber();
            if (number < CREASE_ROWS && meet(number)) {
                found++;
            }
        }
        return found;
    }

    private boolean meet(int number) {
        if (number < 0 || number >= met.length || met[number] != 0) {
            return false;
        }
        met[number] = 1;
        return true;
    }

    private Tray stackIn(int tray) {
        Tray told = trayThere(tray);
        if (!told.tellsEachOnce(table.napkin.cells)) {
            throw new IllegalArgumentException("not each cell once");
        }
        return told;
    }

    private Tray creasesIn(int tray) {
        Tray told = trayThere(tray);
        if (told.many != Math.max(0, table.napkin.cells - 1) || !told.tellsWithin(0, 2)) {
            throw new IllegalArgumentException("not the numbers of all creases");
        }
        return told;
    }

    private static boolean liesInOrder(Lay lay, Tray told) {
        if (lay.wide > 1) {
            return false;
        }
        for (int place = 0; place < told.many; place++) {
            if (lay.cellAt(place) != told.numberAt(place)) {
                return false;
            }
        }
        return true;
    }

    private static boolean isCreasedSo(Lay lay, Tray told) {
        for (int k = 0; k < told.many; k++) {
            if (lay.creaseAt(k) != told.numberAt(k)) {
                return false;
            }
        }
        return true;
    }

    /* Puts cell after cell at each free place; the depth is the cell's number, so it ends with the last cell. */
    private static int standing(int[] place, int c, int cells) {
        if (c >= cells || c >= place.length) {
            return 1;
        }
        int found = 0;
        for (int p = 0; p < cells; p++) {
            if (isFree(place, c, p)) {
                place[c] = p;
                if (creaseFits(place, c)) {
                    found += standing(place, c + 1, cells);
                }
            }
        }
        return found;
    }

    private static boolean isFree(int[] place, int cells, int p) {
        for (int c = 0; c < cells && c < place.length; c++) {
            if (place[c] == p) {
                return false;
            }
        }
        return true;
    }

    /* Whether the crease that ends at cell c crosses none before it on its side. */
    private static boolean creaseFits(int[] place, int c) {
        if (c < 1 || c >= place.length) {
            return true;
        }
        int low = Math.min(place[c - 1], place[c]);
        int top = Math.max(place[c - 1], place[c]);
        for (int other = c - 2; other >= 1; other -= 2) {
            if (isBetween(low, place[other - 1], top) != isBetween(low, place[other], top)) {
                return false;
            }
        }
        return true;
    }

    private static boolean isBetween(int low, int value, int top) {
        return low < value && value < top;
    }

    // ---- guests

    public int refuse() {
        viewNow();
        keepLikes();
        viewFlat();
        int bits = 0;
        for (int guest = 0; guest < table.napkin.guests && guest < likesNow.length; guest++) {
            if (likesNow[guest] < likingInView(guest)) {
                bits |= 1 << guest;
            }
        }
        return bits;
    }

    public int fairest(int n, int what) throws IllegalArgumentException {
        if (!isFoldsOn(n) || !asksOfGreatest(what)) {
            throw new IllegalArgumentException("not so many folds, or nothing such is told");
        }
        Ways on = growOn();
        int node = greatestNode(on, n, BY_LEAST_LIKING);
        return what == 0 ? scoreOn(on, node, BY_LEAST_LIKING) : greatestAnswer(on, node, what);
    }

    public int better(int n) throws IllegalArgumentException {
        needFoldsOn(n);
        Ways on = growOn();
        viewNow();
        keepLikes();
        on.forgetMet();
        int found = 0;
        for (int node = 0; node < on.size && on.depthOf(node) <= n; node++) {
            viewOn(on, node);
            if (pleasesInView() && on.meet(node)) {
                found++;
            }
        }
        return found;
    }

    public int keenest(int n) throws IllegalArgumentException {
        needFoldsOn(n);
        Ways on = growOn();
        int keenest = NONE;
        int most = 0;
        for (int guest = 0; guest < table.napkin.guests; guest++) {
            int reached = scoreOn(on, greatestNode(on, n, guest), guest);
            int gain = reached - scoreOn(on, 0, guest);
            if (keenest == NONE || gain > most) {
                keenest = guest;
                most = gain;
            }
        }
        return keenest;
    }

    private void keepLikes() {
        for (int guest = 0; guest < table.napkin.guests && guest < likesNow.length; guest++) {
            likesNow[guest] = likingInView(guest);
        }
    }

    private boolean pleasesInView() {
        boolean oneMore = false;
        for (int guest = 0; guest < table.napkin.guests && guest < likesNow.length; guest++) {
            int liking = likingInView(guest);
            if (liking < likesNow[guest]) {
                return false;
            }
            oneMore = oneMore || liking > likesNow[guest];
        }
        return oneMore;
    }

    // ---- seen

    public int seen(int tray, int m)
            throws NoSuchElementException, IllegalStateException, IllegalArgumentException {
        Tray told = sightIn(tray, m);
        Ways from = growFromFlat();
        int found = 0;
        for (int node = 0; node < from.size && from.depthOf(node) <= m; node++) {
            if (looksSo(from.layOf(node), told)) {
                found += from.rowsTo(node);
            }
        }
        return found;
    }

    public int sure(int tray, int m)
            throws NoSuchElementException, IllegalStateException, IllegalArgumentException {
        Tray told = sightIn(tray, m);
        Ways from = growFromFlat();
        int bits = 0;
        boolean any = false;
        for (int node = 0; node < from.size && from.depthOf(node) <= m; node++) {
            Lay lay = from.layOf(node);
            if (looksSo(lay, told)) {
                bits = any ? bits & lay.creaseBits() : lay.creaseBits();
                any = true;
            }
        }
        return bits;
    }

    public int look(int tray, int m)
            throws NoSuchElementException, IllegalStateException, IllegalArgumentException {
        Tray told = sightIn(tray, m);
        Ways from = growFromFlat();
        int column = NONE;
        int least = 0;
        for (int other = 0; other < told.many; other++) {
            int group = greatestGroup(from, told, m, other);
            if (group > 0 && (column == NONE || group < least)) {
                column = other;
                least = group;
            }
        }
        return column;
    }

    private Tray sightIn(int tray, int m) {
        Tray told = trayThere(tray);
        if (!told.tellsSight() || m < 0 || m > MOST_SEEN_FOLDS) {
            throw new IllegalArgumentException("nothing seen, or not so many folds");
        }
        return told;
    }

    private int greatestGroup(Ways from, Tray told, int m, int column) {
        Arrays.fill(tally, 0);
        int greatest = 0;
        for (int node = 0; node < from.size && from.depthOf(node) <= m; node++) {
            Lay lay = from.layOf(node);
            if (looksSo(lay, told)) {
                int mark = lay.markBeneath(column, table.now.marks);
                if (mark >= 0 && mark < tally.length) {
                    tally[mark] += from.rowsTo(node);
                    greatest = Math.max(greatest, tally[mark]);
                }
            }
        }
        return greatest;
    }

    // ---- trays, images

    public void tray(int tray, int sort, int many) throws NoSuchElementException, IllegalArgumentException {
        Tray row = trayAt(tray);
        if (sort < 0 || sort > 3 || many < 0 || many > TRAY_ROOM) {
            throw new IllegalArgumentException("no such sort, or not so many numbers");
        }
        row.clear(sort, many);
    }

    public long write(int tray, int place, long v)
            throws NoSuchElementException, IllegalStateException, IndexOutOfBoundsException {
        Tray row = trayThere(tray);
        if (place < 0 || place >= row.many) {
            throw new IndexOutOfBoundsException("no such place");
        }
        return row.put(place, v);
    }

    public int copy(int tray) throws NoSuchElementException, IllegalStateException {
        Tray row = trayThere(tray);
        Lay lay = layNow();
        int many = Math.min(row.many, lay.wide);
        for (int column = 0; column < many; column++) {
            row.put(column, lay.markAbove(column, table.now.marks));
        }
        return many;
    }

    public void image(int i) throws NoSuchElementException {
        Table picture = pictureAt(i);
        picture.take(table);
        picture.isMade = true;
    }

    public void restore(int i) throws NoSuchElementException, IllegalStateException {
        Table picture = pictureAt(i);
        if (!picture.isMade) {
            throw new IllegalStateException("no image was made");
        }
        table.take(picture);
    }

    public int count(int what) {
        switch (what) {
            case 0: return table.napkin.lines;
            case 1: return table.napkin.cells;
            case 2: return table.napkin.guests;
            case 3: return factNow(FACT_WIDE);
            case 4: return factNow(FACT_HIGH);
            case 5: return factNow(FACT_FOLDS);
            case 6: return factNow(FACT_TOP);
            case 7: return factNow(FACT_UNDER);
            case 8: return factNow(FACT_HIDDEN);
            case 9: return table.pasts;
            case 10: return taped;
            default: return NONE;
        }
    }

    private int factNow(int which) {
        viewNow();
        return scale.factAt(which);
    }

    private Tray trayAt(int tray) {
        if (tray < 0 || tray >= trays.length || trays[tray] == null) {
            throw new NoSuchElementException("no such tray");
        }
        return trays[tray];
    }

    private Tray trayThere(int tray) {
        Tray row = trayAt(tray);
        if (row.missing) {
            throw new IllegalStateException("the tray is missing");
        }
        return row;
    }

    private Table pictureAt(int i) {
        if (i < 0 || i >= pictures.length || pictures[i] == null) {
            throw new NoSuchElementException("no such image");
        }
        return pictures[i];
    }

    /** The words of the napkin's text; a word with a fact may stand for it in a law. */
    private enum Word {
        CELL("cell", NONE), BACK("back", NONE), GUEST("guest", FACT_GUEST), WORTH("worth", NONE),
        HOLDS("holds", NONE), LIKES("likes", NONE), OR("or", NONE), AND("and", NONE), NOT("not", NONE),
        WIDE("wide", FACT_WIDE), HIGH("high", FACT_HIGH), FOLDS("folds", FACT_FOLDS), TOP("top", FACT_TOP),
        UNDER("under", FACT_UNDER), HIDDEN("hidden", FACT_HIDDEN), WANT("want", FACT_WANT), UNKNOWN("", NONE);

        private static final Word[] ALL = values();

        final String letters;
        final int fact;

        Word(String letters, int fact) {
            this.letters = letters;
            this.fact = fact;
        }

        boolean isOfLikesAlone() {
            return this == GUEST || this == WANT;
        }
    }

    /** The napkin as its text tells it; once read it never changes, so images share it. */
    private static final class Napkin {
        int lines = 0;
        int cells = 0;
        int guests = 0;
        final int[] marks = new int[2 * MOST_CELLS];
        final int[] wants = new int[MOST_GUESTS];
        int[] worthLaw = new int[0];
        int[] holdsLaw = new int[0];
        int[] likesLaw = new int[0];

        void addCell(int front, int back) {
            int at = 2 * cells;
            if (at + 1 < marks.length) {
                marks[at] = front;
                marks[at + 1] = back;
                cells++;
            }
        }

        void addGuest(int want) {
            if (guests < wants.length) {
                wants[guests] = want;
                guests++;
            }
        }

        int wantOf(int guest) {
            return guest >= 0 && guest < wants.length ? wants[guest] : 0;
        }
    }

    /** Reads a text token by token and stops at the first fault. */
    private static final class Reader {
        private static final int END = 0;
        private static final int BAD = 1;
        private static final int NUMBER = 2;
        private static final int WORD = 3;

        private byte[] text = new byte[0];
        private int length = 0;
        private int at = 0;
        private int start = 0;
        private int token = END;
        private int number = 0;
        private Word word = Word.UNKNOWN;
        private Napkin napkin = new Napkin();
        private final int[] law = new int[TAPE_ROOM];
        private int used = 0;
        private boolean ofLikes = false;
        int fault = 0;
        int place = NONE;

        /** The napkin of the first n bytes, or null: then fault and place tell why. */
        Napkin read(byte[] bytes, int n) {
            text = bytes;
            length = Math.max(0, Math.min(n, bytes.length));
            at = 0;
            napkin = new Napkin();
            fault = 0;
            place = NONE;
            next();
            for (int i = 0; i <= length && token != END; i++) {
                if (!readLine()) {
                    return null;
                }
            }
            return napkin;
        }

        private boolean readLine() {
            if (token != WORD) {
                return refuseToken();
            }
            boolean fine;
            switch (word) {
                case CELL: fine = readCell(); break;
                case GUEST: fine = readGuest(); break;
                case WORTH:
                case HOLDS:
                case LIKES: fine = readLaw(word); break;
                default: fine = refuseToken(); break;
            }
            if (!fine || !takeSign(';')) {
                return false;
            }
            napkin.lines++;
            return true;
        }

        private boolean readCell() {
            if (napkin.cells >= MOST_CELLS) {
                return refuseAs(FAULT_TOO_MANY);
            }
            next();
            int front = takeNumber(MOST_MARK);
            if (front == NONE || !takeWord(Word.BACK)) {
                return false;
            }
            int back = takeNumber(MOST_MARK);
            if (back == NONE) {
                return false;
            }
            napkin.addCell(front, back);
            return true;
        }

        private boolean readGuest() {
            if (napkin.guests >= MOST_GUESTS) {
                return refuseAs(FAULT_TOO_MANY);
            }
            next();
            int want = takeNumber(MOST_MARK);
            if (want == NONE) {
                return false;
            }
            napkin.addGuest(want);
            return true;
        }

        private boolean readLaw(Word which) {
            next();
            if (!takeSign(':')) {
                return false;
            }
            used = 0;
            ofLikes = which == Word.LIKES;
            if (!(which == Word.HOLDS ? readTruth(0) : readSum(0))) {
                return false;
            }
            int[] codes = Arrays.copyOf(law, Math.max(0, used));
            if (which == Word.HOLDS) {
                napkin.holdsLaw = codes;
            } else if (which == Word.LIKES) {
                napkin.likesLaw = codes;
            } else {
                napkin.worthLaw = codes;
            }
            return true;
        }

        private boolean readTruth(int depth) {
            if (!readBoth(depth)) {
                return false;
            }
            for (int i = 0; i < length && isWord(Word.OR); i++) {
                next();
                if (!readBoth(depth)) {
                    return false;
                }
                emit(OP_OR);
            }
            return true;
        }

        private boolean readBoth(int depth) {
            if (!readUnit(depth)) {
                return false;
            }
            for (int i = 0; i < length && isWord(Word.AND); i++) {
                next();
                if (!readUnit(depth)) {
                    return false;
                }
                emit(OP_AND);
            }
            return true;
        }

        private boolean readUnit(int depth) {
            if (isWord(Word.NOT)) {
                if (!goDeeper(depth) || !readUnit(depth + 1)) {
                    return false;
                }
                emit(OP_NOT);
                return true;
            }
            if (token == '[') {
                return goDeeper(depth) && readTruth(depth + 1) && takeSign(']');
            }
            if (!readSum(depth)) {
                return false;
            }
            int op = comparing();
            if (op == NONE) {
                return refuseToken();
            }
            next();
            if (!readSum(depth)) {
                return false;
            }
            emit(op);
            return true;
        }

        private int comparing() {
            switch (token) {
                case '=': return OP_EQUAL;
                case '<': return OP_LESS;
                case '>': return OP_MORE;
                default: return NONE;
            }
        }

        private boolean readSum(int depth) {
            if (!readTerm(depth)) {
                return false;
            }
            for (int i = 0; i < length && (token == '+' || token == '-'); i++) {
                int op = token == '+' ? OP_PLUS : OP_MINUS;
                next();
                if (!readTerm(depth)) {
                    return false;
                }
                emit(op);
            }
            return true;
        }

        private boolean readTerm(int depth) {
            if (!readAtom(depth)) {
                return false;
            }
            for (int i = 0; i < length && token == '*'; i++) {
                next();
                if (!readAtom(depth)) {
                    return false;
                }
                emit(OP_TIMES);
            }
            return true;
        }

        private boolean readAtom(int depth) {
            if (token == '(') {
                return goDeeper(depth) && readSum(depth + 1) && takeSign(')');
            }
            if (token == NUMBER) {
                emit(number);
                next();
                return true;
            }
            boolean isFact = token == WORD && word.fact != NONE && (ofLikes || !word.isOfLikesAlone());
            if (!isFact) {
                return refuseToken();
            }
            emit(FACT + word.fact);
            next();
            return true;
        }

        private boolean goDeeper(int depth) {
            if (depth >= MOST_NESTED) {
                return refuseAs(FAULT_TOO_MANY);
            }
            next();
            return true;
        }

        private void emit(int code) {
            if (used >= 0 && used < law.length) {
                law[used] = code;
                used++;
            }
        }

        private boolean isWord(Word which) {
            return token == WORD && word == which;
        }

        private boolean takeWord(Word which) {
            if (!isWord(which)) {
                return refuseToken();
            }
            next();
            return true;
        }

        private boolean takeSign(char sign) {
            if (token != sign) {
                return refuseToken();
            }
            next();
            return true;
        }

        private int takeNumber(int most) {
            if (token != NUMBER) {
                refuseToken();
                return NONE;
            }
            if (number > most) {
                refuseAs(FAULT_BOUNDS);
                return NONE;
            }
            int taken = number;
            next();
            return taken;
        }

        private boolean refuseToken() {
            return refuseAs(token == BAD ? FAULT_NO_TOKEN : FAULT_STANDS_WRONG);
        }

        private boolean refuseAs(int kind) {
            fault = kind;
            place = start;
            return false;
        }

        private void next() {
            while (at < length && (byteAt(at) == ' ' || byteAt(at) == '\n')) {
                at++;
            }
            start = at;
            int c = byteAt(at);
            if (at >= length) {
                token = END;
            } else if (isDigit(c)) {
                nextNumber();
            } else if (isLetter(c)) {
                nextWord();
            } else {
                token = isSign(c) ? c : BAD;
                at++;
            }
        }

        private void nextNumber() {
            int value = 0;
            while (at < length && isDigit(byteAt(at))) {
                value = Math.min(10 * value + byteAt(at) - '0', MOST_VALUE);
                at++;
            }
            number = value;
            token = at - start > 3 ? BAD : NUMBER;
        }

        private void nextWord() {
            while (at < length && isLetter(byteAt(at))) {
                at++;
            }
            token = WORD;
            word = Word.UNKNOWN;
            for (int i = 0; i < Word.ALL.length; i++) {
                if (isSpelled(Word.ALL[i].letters)) {
                    word = Word.ALL[i];
                }
            }
        }

        private boolean isSpelled(String letters) {
            if (letters.length() != at - start) {
                return false;
            }
            for (int i = 0; i < letters.length(); i++) {
                int from = start + i;
                if (from < 0 || from >= text.length || letters.charAt(i) != text[from]) {
                    return false;
                }
            }
            return true;
        }

        private int byteAt(int i) {
            return i >= 0 && i < length && i < text.length ? text[i] & 255 : 0;
        }

        private static boolean isDigit(int c) {
            return c >= '0' && c <= '9';
        }

        private static boolean isLetter(int c) {
            return c >= 'a' && c <= 'z';
        }

        private static boolean isSign(int c) {
            return ";:+-*()[]=<>".indexOf((char) c) >= 0;
        }
    }

    /** What deeds change: marks and folds. */
    private static final class Moment {
        final int[] marks = new int[2 * MOST_CELLS];
        private final int[] deeds = new int[MOST_FOLDS];
        int folds = 0;

        void begin(Napkin napkin) {
            System.arraycopy(napkin.marks, 0, marks, 0, Math.min(napkin.marks.length, marks.length));
            folds = 0;
        }

        void take(Moment other) {
            System.arraycopy(other.marks, 0, marks, 0, Math.min(other.marks.length, marks.length));
            System.arraycopy(other.deeds, 0, deeds, 0, Math.min(other.deeds.length, deeds.length));
            folds = other.folds;
        }

        int foldAt(int k) {
            return k >= 0 && k < folds && k < deeds.length ? deeds[k] : NONE;
        }

        int markOf(int c, int face) {
            int at = 2 * c + face;
            return at >= 0 && at < marks.length ? marks[at] : 0;
        }

        void change(int deed) {
            if (deed >= DEED_BACK) {
                putMark(deed - DEED_BACK, 1);
            } else if (deed >= DEED_FRONT) {
                putMark(deed - DEED_FRONT, 0);
            } else if (deed == DEED_SHAKE) {
                folds = 0;
            } else if (deed == DEED_UNFOLD) {
                folds = Math.max(0, folds - 1);
            } else if (folds >= 0 && folds < deeds.length) {
                deeds[folds] = deed;
                folds++;
            }
        }

        private void putMark(int told, int face) {
            int at = 2 * (told / MARKS) + face;
            if (told >= 0 && at < marks.length) {
                marks[at] = told % MARKS;
            }
        }
    }

    /** All that an image keeps: the napkin, how it is now, and what can be undone. */
    private static final class Table {
        Napkin napkin = new Napkin();
        final Moment now = new Moment();
        private final Moment[] past = new Moment[MOST_UNDONE];
        int pasts = 0;
        /* Of an image: whether anything was ever kept in it. */
        boolean isMade = false;

        Table() {
            for (int i = 0; i < past.length; i++) {
                past[i] = new Moment();
            }
        }

        void spread(Napkin told) {
            napkin = told;
            now.begin(told);
            pasts = 0;
        }

        void take(Table other) {
            napkin = other.napkin;
            now.take(other.now);
            for (int i = 0; i < past.length && i < other.past.length; i++) {
                past[i].take(other.past[i]);
            }
            pasts = other.pasts;
        }

        void remember() {
            if (pasts >= past.length) {
                forgetEldest();
            }
            if (pasts >= 0 && pasts < past.length) {
                past[pasts].take(now);
                pasts++;
            }
        }

        private void forgetEldest() {
            for (int i = 1; i < past.length; i++) {
                Moment eldest = past[i - 1];
                past[i - 1] = past[i];
                past[i] = eldest;
            }
            pasts--;
        }

        void goBack(int n) {
            int to = pasts - n;
            if (to >= 0 && to < past.length) {
                now.take(past[to]);
                pasts = to;
            }
        }
    }

    /** How the cells lie: all stacks in one row, from the leftmost column's lowest cell on. */
    private static final class Lay {
        private final int[] who = new int[MOST_CELLS];
        private final boolean[] up = new boolean[MOST_CELLS];
        private final int[] end = new int[MOST_CELLS];
        private int laid = 0;
        int wide = 0;

        void flatten(int cells) {
            empty();
            for (int c = 0; c < cells; c++) {
                lay(c, true);
                closeColumn();
            }
        }

        void take(Lay other) {
            empty();
            for (int column = 0; column < other.wide; column++) {
                layColumn(other, column);
                closeColumn();
            }
        }

        /* d counts from the line outwards, as the document tells where what goes comes to lie. */
        void foldFrom(Lay from, int line, int way) {
            empty();
            boolean goesLeft = way < 2;
            int span = Math.max(line, from.wide - line);
            for (int column = 0; column < span; column++) {
                int d = goesLeft ? column : span - 1 - column;
                int right = line + d;
                int left = line - 1 - d;
                int stays = goesLeft ? right : left;
                int goes = goesLeft ? left : right;
                if (way % 2 == 0) {
                    layColumn(from, stays);
                    layTurned(from, goes);
                } else {
                    layTurned(from, goes);
                    layColumn(from, stays);
                }
                closeColumn();
            }
        }

        private void empty() {
            laid = 0;
            wide = 0;
        }

        private void lay(int c, boolean isUp) {
            if (laid >= 0 && laid < who.length && laid < up.length) {
                who[laid] = c;
                up[laid] = isUp;
                laid++;
            }
        }

        private void closeColumn() {
            if (wide >= 0 && wide < end.length) {
                end[wide] = laid;
                wide++;
            }
        }

        private void layColumn(Lay from, int column) {
            for (int i = from.startOf(column); i < from.endOf(column); i++) {
                lay(from.cellAt(i), from.isUp(i));
            }
        }

        private void layTurned(Lay from, int column) {
            for (int i = from.endOf(column) - 1; i >= from.startOf(column); i--) {
                lay(from.cellAt(i), !from.isUp(i));
            }
        }

        int startOf(int column) {
            return column >= 1 && column < wide && column <= end.length ? end[column - 1] : 0;
        }

        int endOf(int column) {
            return column >= 0 && column < wide && column < end.length ? end[column] : 0;
        }

        int heightOf(int column) {
            return endOf(column) - startOf(column);
        }

        int cellAt(int i) {
            return i >= 0 && i < laid && i < who.length ? who[i] : NONE;
        }

        boolean isUp(int i) {
            return i >= 0 && i < laid && i < up.length && up[i];
        }

        int tallest() {
            int most = 0;
            for (int column = 0; column < wide; column++) {
                most = Math.max(most, heightOf(column));
            }
            return most;
        }

        int placeOf(int c) {
            for (int i = 0; i < laid; i++) {
                if (cellAt(i) == c) {
                    return i;
                }
            }
            return NONE;
        }

        int columnOf(int c) {
            int at = placeOf(c);
            for (int column = 0; column < wide; column++) {
                if (at < endOf(column)) {
                    return column;
                }
            }
            return NONE;
        }

        int markAbove(int column, int[] marks) {
            int i = endOf(column) - 1;
            return markOf(cellAt(i), isUp(i), marks);
        }

        int markBeneath(int column, int[] marks) {
            int i = startOf(column);
            return markOf(cellAt(i), !isUp(i), marks);
        }

        private static int markOf(int c, boolean front, int[] marks) {
            int at = 2 * c + (front ? 0 : 1);
            return at >= 0 && at < marks.length ? marks[at] : 0;
        }

        int creaseAt(int k) {
            if (columnOf(k) != columnOf(k + 1)) {
                return 0;
            }
            return isUp(Math.min(placeOf(k), placeOf(k + 1))) ? 2 : 1;
        }

        int creaseBits() {
            int bits = 0;
            for (int k = 0; k + 1 < laid; k++) {
                if (creaseAt(k) != 0) {
                    bits |= 1 << k;
                }
            }
            return bits;
        }

        int creaseNumber() {
            int number = 0;
            for (int k = 0; k + 1 < laid; k++) {
                number = 3 * number + creaseAt(k);
            }
            return number;
        }

        /* Each order of n cells has a number of its own below n!. */
        int orderNumber() {
            int number = 0;
            for (int i = 0; i < laid; i++) {
                int smaller = 0;
                for (int j = i + 1; j < laid; j++) {
                    if (cellAt(j) < cellAt(i)) {
                        smaller++;
                    }
                }
                number = number * (laid - i) + smaller;
            }
            return number;
        }

        /* Five bits a cell, in order: its number, its face, whether its column ends: unlike looks, unlike keys. */
        int key() {
            int key = 0;
            int column = 0;
            for (int i = 0; i < laid; i++) {
                boolean last = i + 1 == endOf(column);
                key = key << 5 | cellAt(i) << 2 | (isUp(i) ? 2 : 0) | (last ? 1 : 0);
                column += last ? 1 : 0;
            }
            return key;
        }

        void takeKey(int key, int cells) {
            empty();
            for (int i = Math.min(cells, MOST_CELLS) - 1; i >= 0; i--) {
                int bits = key >> 5 * i & 31;
                lay(bits >> 2, (bits & 2) != 0);
                if ((bits & 1) != 0) {
                    closeColumn();
                }
            }
        }

        int cells() {
            return laid;
        }
    }

    /** Weighs laws by how the napkin in view lies. */
    private static final class Scale {
        /* Six nested brackets leave at most two waiting values each, beside the few of the outermost law. */
        private static final int PILE_ROOM = 64;

        private final int[] facts = new int[FACTS];
        private final int[] pile = new int[PILE_ROOM];

        void view(Lay lay, int[] marks, int folds) {
            int top = 0;
            int under = 0;
            for (int column = 0; column < lay.wide; column++) {
                top += lay.markAbove(column, marks);
                under += lay.markBeneath(column, marks);
            }
            int all = 0;
            for (int i = 0; i < 2 * lay.cells() && i < marks.length; i++) {
                all += marks[i];
            }
            put(FACT_WIDE, lay.wide);
            put(FACT_HIGH, lay.tallest());
            put(FACT_FOLDS, folds);
            put(FACT_TOP, top);
            put(FACT_UNDER, under);
            put(FACT_HIDDEN, all - top - under);
        }

        void serve(int guest, int want) {
            put(FACT_GUEST, guest);
            put(FACT_WANT, want);
        }

        private void put(int which, int value) {
            if (which >= 0 && which < facts.length) {
                facts[which] = value;
            }
        }

        int factAt(int which) {
            return which >= 0 && which < facts.length ? facts[which] : 0;
        }

        /** A sum's value, a truth's 1 or 0; without a law 0. */
        int weigh(int[] law) {
            int piled = 0;
            for (int i = 0; i < law.length; i++) {
                int code = law[i];
                if (code < OP_NOT && piled < pile.length) {
                    pile[piled] = code < FACT ? code : factAt(code - FACT);
                    piled++;
                } else if (code == OP_NOT && piled >= 1) {
                    pile[piled - 1] = 1 - pile[piled - 1];
                } else if (code > OP_NOT && piled >= 2) {
                    piled--;
                    pile[piled - 1] = join(code, pile[piled - 1], pile[piled]);
                }
            }
            return piled >= 1 ? pile[piled - 1] : 0;
        }

        private static int join(int op, int left, int right) {
            long value;
            switch (op) {
                case OP_AND: value = left & right; break;
                case OP_OR: value = left | right; break;
                case OP_PLUS: value = (long) left + right; break;
                case OP_MINUS: value = (long) left - right; break;
                case OP_TIMES: value = (long) left * right; break;
                case OP_EQUAL: value = left == right ? 1 : 0; break;
                case OP_LESS: value = left < right ? 1 : 0; break;
                default: value = left > right ? 1 : 0; break;
            }
            return (int) Math.max(-MOST_VALUE, Math.min(MOST_VALUE, value));
        }
    }

    /**
     * All that comes by folds from one look. A node is a look by a number of folds, with its first row of
     * folds and how many rows lead there: laws, creases and marks ask no more of a row than its node.
     * Nodes come by number of folds, then by their first rows, so the first node found is the one asked for.
     */
    private static final class Ways {
        /* Six cells have 989 nodes; fewer have fewer. */
        private static final int ROOM = 1024;
        private static final int SLOTS = 2048;

        private final int[] keys = new int[ROOM];
        private final int[] parents = new int[ROOM];
        private final int[] deeds = new int[ROOM];
        private final int[] depths = new int[ROOM];
        private final int[] counts = new int[ROOM];
        private final int[] firsts = new int[ROOM];
        private final int[] latests = new int[ROOM];
        private final int[] metLooks = new int[ROOM];
        private final int[] slots = new int[SLOTS];
        private final Lay shown = new Lay();
        private final Lay after = new Lay();
        private int cells = 0;
        int size = 0;

        /* The same start grows the same nodes, so what has grown is kept. */
        void grow(Lay start) {
            if (size > 0 && cells == start.cells() && keyOf(0) == start.key()) {
                return;
            }
            cells = start.cells();
            size = 0;
            Arrays.fill(slots, NONE);
            add(start.key(), NONE, NONE);
            for (int node = 0; node < size && node < ROOM; node++) {
                growFrom(node);
            }
        }

        private void growFrom(int node) {
            Lay lay = layOf(node);
            for (int line = 1; line < lay.wide; line++) {
                for (int way = 0; way < WAYS_OF_A_LINE; way++) {
                    after.foldFrom(lay, line, way);
                    add(after.key(), node, 10 * line + way);
                }
            }
        }

        private void add(int key, int parent, int deed) {
            int slot = slotOf(key);
            int first = valueAt(slots, slot);
            int depth = parent == NONE ? 0 : depthOf(parent) + 1;
            int rows = parent == NONE ? 1 : rowsTo(parent);
            int latest = first == NONE ? NONE : valueAt(latests, first);
            if (latest != NONE && depthOf(latest) == depth) {
                put(counts, latest, rowsTo(latest) + rows);
                return;
            }
            if (size < 0 || size >= ROOM) {
                return;
            }
            int node = size;
            size++;
            put(keys, node, key);
            put(parents, node, parent);
            put(deeds, node, deed);
            put(depths, node, depth);
            put(counts, node, rows);
            put(firsts, node, first == NONE ? node : first);
            put(latests, first == NONE ? node : first, node);
            if (first == NONE) {
                put(slots, slot, node);
            }
        }

        /* Where the first node of a look is told, or would be. */
        private int slotOf(int key) {
            int slot = key * 0x9E3779B1 >>> 21;
            for (int i = 0; i < SLOTS; i++) {
                int first = valueAt(slots, slot);
                if (first == NONE || keyOf(first) == key) {
                    return slot;
                }
                slot = slot + 1 & SLOTS - 1;
            }
            return slot;
        }

        private static int valueAt(int[] row, int i) {
            return i >= 0 && i < row.length ? row[i] : NONE;
        }

        private static void put(int[] row, int i, int value) {
            if (i >= 0 && i < row.length) {
                row[i] = value;
            }
        }

        private int keyOf(int node) {
            return valueAt(keys, node);
        }

        Lay layOf(int node) {
            shown.takeKey(keyOf(node), cells);
            return shown;
        }

        int depthOf(int node) {
            return valueAt(depths, node);
        }

        int rowsTo(int node) {
            return valueAt(counts, node);
        }

        /** The k-th fold of a node's first row. */
        int foldOf(int node, int k) {
            int depth = depthOf(node);
            if (k < 0 || k >= depth) {
                return NONE;
            }
            int at = node;
            for (int i = depth - 1; i > k; i--) {
                at = valueAt(parents, at);
            }
            return valueAt(deeds, at);
        }

        void forgetMet() {
            Arrays.fill(metLooks, 0);
        }

        /** Whether a node's look is met for the first time since all was forgotten. */
        boolean meet(int node) {
            int first = valueAt(firsts, node);
            boolean isNew = valueAt(metLooks, first) == 0;
            put(metLooks, first, 1);
            return isNew;
        }
    }

    /** A row of numbers, cut to its sort. */
    private static final class Tray {
        private final long[] numbers = new long[TRAY_ROOM];
        private int sort = 0;
        int many = 0;
        boolean missing = true;

        void clear(int newSort, int newMany) {
            Arrays.fill(numbers, 0L);
            sort = newSort;
            many = newMany;
            missing = false;
        }

        long numberAt(int place) {
            return place >= 0 && place < many && place < numbers.length ? numbers[place] : 0;
        }

        long put(int place, long v) {
            if (place >= 0 && place < many && place < numbers.length) {
                numbers[place] = cut(v);
            }
            return numberAt(place);
        }

        private long cut(long v) {
            switch (sort) {
                case 0: return (byte) v;
                case 1: return (short) v;
                case 2: return (int) v;
                default: return v;
            }
        }

        boolean tellsFrom(long least) {
            for (int i = 0; i < many; i++) {
                if (numberAt(i) < least) {
                    return false;
                }
            }
            return true;
        }

        boolean tellsWithin(long least, long most) {
            for (int i = 0; i < many; i++) {
                if (numberAt(i) > most) {
                    return false;
                }
            }
            return tellsFrom(least);
        }

        boolean tellsSight() {
            return many >= 1 && many <= MOST_CELLS && tellsFrom(NONE);
        }

        boolean tellsEachOnce(int cells) {
            if (many != cells || !tellsWithin(0, cells - 1)) {
                return false;
            }
            for (int i = 0; i < many; i++) {
                for (int j = 0; j < i; j++) {
                    if (numberAt(i) == numberAt(j)) {
                        return false;
                    }
                }
            }
            return true;
        }
    }

    /** The draws of an evening. */
    private static final class Dice {
        private int x;

        Dice(int seed) {
            x = seed;
        }

        int draw() {
            x = 1103515245 * x + 12345;
            return x >>> 16;
        }
    }
}
