/**
 * A pull line: stages make containers when cards tell them to, boards collect cards until a run is
 * worth while, markets hold what is made, conveyance cards fetch containers for the next stage, and
 * customers take from the last market. What each call does is told in ../shared/DOC.md.
 */
public final class KanbanLoop {
    private static final int MOST_STAGES = 6;
    private static final int MOST_CARDS = 9;
    private static final int MOST_SIZE = 10;
    private static final int MOST_TIME = 9;
    private static final int MOST_MARK = 9;
    private static final int MOST_CONVEYANCE = 5;
    private static final int MOST_WAY = 5;
    private static final int MOST_DEMAND = 20;
    private static final int MOST_SAFETY = 100;
    private static final int MOST_STEPS = 50;

    private Stage last;
    private int stageCount;
    private boolean ruleIsFirst;
    private int wantedPerStep;
    private int now;
    private int unitsTaken;
    private int unitsOwed;
    private int shortCount;

    public KanbanLoop() {
        last = null;
        stageCount = 0;
        ruleIsFirst = false;
        wantedPerStep = 0;
        now = 0;
        unitsTaken = 0;
        unitsOwed = 0;
        shortCount = 0;
    }

    // ---- the line

    public int stage(int cards, int size, int time, int mark, boolean full)
            throws IllegalArgumentException, IllegalStateException {
        checkRange(cards, 1, MOST_CARDS);
        checkRange(size, 1, MOST_SIZE);
        checkRange(time, 1, MOST_TIME);
        checkRange(mark, 1, MOST_MARK);
        if (stageCount >= MOST_STAGES) {
            throw new IllegalStateException("the line has all its stages");
        }
        last = new Stage(last, cards, size, time, mark, full);
        stageCount++;
        return last.number;
    }

    public int way(int stage, int steps) throws IndexOutOfBoundsException, IllegalArgumentException {
        Stage fed = findFed(stage);
        checkRange(steps, 0, MOST_WAY);
        int before = fed.waySteps;
        fed.waySteps = steps;
        return before;
    }

    public int mark(int stage, int mark) throws IndexOutOfBoundsException, IllegalArgumentException {
        Stage found = find(stage);
        checkRange(mark, 1, MOST_MARK);
        int before = found.mark;
        found.mark = mark;
        return before;
    }

    public boolean rule(boolean first) {
        boolean before = ruleIsFirst;
        ruleIsFirst = first;
        return before;
    }

    public int demand(int units) throws IllegalArgumentException {
        checkRange(units, 0, MOST_DEMAND);
        int before = wantedPerStep;
        wantedPerStep = units;
        return before;
    }

    public boolean stop(int stage) throws IndexOutOfBoundsException {
        Stage found = find(stage);
        found.stopped = !found.stopped;
        return found.stopped;
    }

    // ---- cards

    public int issue(int stage) throws IndexOutOfBoundsException, IllegalStateException {
        Stage found = find(stage);
        if (found.cards >= MOST_CARDS) {
            throw new IllegalStateException("the stage has all its production cards");
        }
        found.cards++;
        found.board++;
        return found.cards;
    }

    public int retire(int stage) throws IndexOutOfBoundsException, IllegalStateException {
        Stage found = find(stage);
        if (found.board < 1 || found.cards <= 1) {
            throw new IllegalStateException("no production card can be retired");
        }
        found.cards--;
        found.board--;
        found.run = Math.min(found.run, found.board);
        return found.cards;
    }

    public int issueConveyance(int stage) throws IndexOutOfBoundsException, IllegalStateException {
        Stage fed = findFed(stage);
        if (fed.conveyance >= MOST_CONVEYANCE) {
            throw new IllegalStateException("the stage has all its conveyance cards");
        }
        fed.conveyance++;
        fed.waiting++;
        return fed.conveyance;
    }

    public int retireConveyance(int stage) throws IndexOutOfBoundsException, IllegalStateException {
        Stage fed = findFed(stage);
        if (fed.waiting < 1 || fed.conveyance <= 1) {
            throw new IllegalStateException("no conveyance card can be retired");
        }
        fed.conveyance--;
        fed.waiting--;
        return fed.conveyance;
    }

    public int needed(int stage, int safety) throws IndexOutOfBoundsException, IllegalArgumentException {
        Stage found = find(stage);
        checkRange(safety, 0, MOST_SAFETY);
        int lead = found.mark * found.time + wayBehind(found);
        int wanted = wantedPerStep * lead * (100 + safety);
        int perCard = 100 * found.size;
        if (perCard < 1) {
            return 1;
        }
        int roundedUp = (wanted + perCard - 1) / perCard;
        return Math.max(1, roundedUp);
    }

    // ---- steps

    public int step(int steps) throws IllegalArgumentException, IllegalStateException {
        checkRange(steps, 1, MOST_STEPS);
        if (last == null) {
            throw new IllegalStateException("the line has no stages");
        }
        int before = unitsTaken;
        for (int i = 0; i < steps; i++) {
            passOneStep(last);
        }
        return unitsTaken - before;
    }

    public int time() {
        return now;
    }

    // ---- what is

    public int stages() {
        return stageCount;
    }

    public int board(int stage) throws IndexOutOfBoundsException {
        return find(stage).board;
    }

    public int attached(int stage) throws IndexOutOfBoundsException {
        return find(stage).market.cardsOn();
    }

    public int left(int stage) throws IndexOutOfBoundsException {
        return find(stage).left;
    }

    public int run(int stage) throws IndexOutOfBoundsException {
        return find(stage).run;
    }

    public int market(int stage) throws IndexOutOfBoundsException {
        return find(stage).market.allUnits();
    }

    public int inbox(int stage) throws IndexOutOfBoundsException {
        return find(stage).inbox.allUnits();
    }

    public int waiting(int stage) throws IndexOutOfBoundsException {
        return find(stage).waiting;
    }

    public int travelling(int stage) throws IndexOutOfBoundsException {
        return find(stage).road.count;
    }

    public int firstUnits(int stage) throws IndexOutOfBoundsException {
        return find(stage).market.headUnits();
    }

    // ---- what was

    public int taken() {
        return unitsTaken;
    }

    public int backlog() {
        return unitsOwed;
    }

    public int shortSteps() {
        return shortCount;
    }

    public int starved(int stage) throws IndexOutOfBoundsException {
        return find(stage).starvedSteps;
    }

    public int stock() {
        int units = 0;
        for (Stage at = last; at != null; at = at.ahead) {
            units += at.unitsHeld();
        }
        return units;
    }

    public int stockByFlow() {
        int units = -unitsTaken;
        for (Stage at = last; at != null; at = at.ahead) {
            units += at.unitsEntered;
        }
        return units;
    }

    private static void checkRange(int value, int least, int most) {
        if (value < least || value > most) {
            throw new IllegalArgumentException("an argument is out of its range");
        }
    }

    private Stage find(int stage) {
        Stage at = last;
        while (at != null && at.number != stage) {
            at = at.ahead;
        }
        if (at == null) {
            throw new IndexOutOfBoundsException("there is no such stage");
        }
        return at;
    }

    /** The first stage makes units of nothing, so it has neither an inbox nor a way to one. */
    private Stage findFed(int stage) {
        Stage found = find(stage);
        if (found.ahead == null) {
            throw new IndexOutOfBoundsException("the first stage has no inbox");
        }
        return found;
    }

    /** The way belongs to the stage behind, which no stage knows: only the line ahead is linked. */
    private int wayBehind(Stage stage) {
        for (Stage at = last; at != null; at = at.ahead) {
            if (at.ahead == stage) {
                return at.waySteps;
            }
        }
        return 0;
    }

    private void passOneStep(Stage end) {
        now++;
        serveCustomers(end);
        for (Stage at = end; at != null; at = at.ahead) {
            at.work(ruleIsFirst);
        }
        for (Stage at = end; at != null; at = at.ahead) {
            at.convey();
        }
    }

    private void serveCustomers(Stage end) {
        int wanted = wantedPerStep + unitsOwed;
        int got = Math.min(wanted, end.market.allUnits());
        end.board += end.market.takeOut(got, ruleIsFirst);
        unitsTaken += got;
        unitsOwed = wanted - got;
        if (unitsOwed > 0) {
            shortCount++;
        }
    }

    /** A stage with its market behind it, and with its inbox and the way to that ahead of it. */
    private static final class Stage {
        private final Stage ahead;
        private final int number;
        private final int size;
        private final int time;
        private final Store market;
        private final Store inbox;
        private final Road road;
        private int mark;
        private int cards;
        private int board;
        private int left;
        private int run;
        private boolean stopped;
        private int conveyance;
        private int waiting;
        private int waySteps;
        private int starvedSteps;
        private int unitsEntered;

        private Stage(Stage ahead, int cards, int size, int time, int mark, boolean full) {
            this.ahead = ahead;
            this.number = ahead == null ? 0 : ahead.number + 1;
            this.size = size;
            this.time = time;
            this.mark = mark;
            this.cards = cards;
            this.board = full ? 0 : cards;
            this.market = new Store(full ? cards : 0, size);
            this.inbox = new Store(0, 0);
            this.road = new Road();
            this.conveyance = ahead == null ? 0 : 1;
            this.waiting = this.conveyance;
            this.unitsEntered = full ? cards * size : 0;
        }

        /** What travels to its inbox counts with the stage, so that each unit counts once. */
        private int unitsHeld() {
            int inWork = left > 0 ? size : 0;
            return market.allUnits() + inbox.allUnits() + road.allUnits() + inWork;
        }

        private void work(boolean ruleIsFirst) {
            if (stopped) {
                return;
            }
            goOn();
            if (left > 0) {
                return;
            }
            if (run == 0 && board >= mark) {
                run = board;
            }
            if (run == 0) {
                return;
            }
            if (ahead != null && inbox.allUnits() < size) {
                starvedSteps++;
                return;
            }
            begin(ruleIsFirst);
        }

        private void goOn() {
            if (left > 0) {
                left--;
                if (left == 0) {
                    market.add(size);
                }
            }
        }

        private void begin(boolean ruleIsFirst) {
            if (ahead == null) {
                unitsEntered += size;
            } else {
                waiting += inbox.takeOut(size, ruleIsFirst);
            }
            board--;
            run--;
            left = time;
        }

        private void convey() {
            if (ahead == null) {
                return;
            }
            road.bringTo(inbox);
            // Each container that is fetched takes one card and one place, so the smaller number is all.
            for (int n = Math.min(waiting, ahead.market.count); n > 0; n--) {
                fetchFrom(ahead);
            }
        }

        private void fetchFrom(Stage source) {
            int units = source.market.headUnits();
            if (source.market.headIsCarded()) {
                source.board++;
            }
            source.market.removeHead();
            waiting--;
            if (waySteps == 0) {
                inbox.add(units);
            } else {
                road.add(units, waySteps);
            }
        }
    }

    /** The containers of a market or an inbox, in the order in which they came, with their cards. */
    private static final class Store {
        // Only the container that came first is ever begun, so at most one lacks its card.
        private static final int PLACES = MOST_CARDS + 1;

        private final int[] units;
        private final boolean[] carded;
        private int count;

        private Store(int containers, int size) {
            units = new int[PLACES];
            carded = new boolean[PLACES];
            count = Math.min(containers, PLACES);
            for (int i = 0; i < count; i++) {
                units[i] = size;
                carded[i] = true;
            }
        }

        private int allUnits() {
            int sum = 0;
            for (int i = 0; i < count && i < PLACES; i++) {
                sum += units[i];
            }
            return sum;
        }

        private int cardsOn() {
            int sum = 0;
            for (int i = 0; i < count && i < PLACES; i++) {
                if (carded[i]) {
                    sum++;
                }
            }
            return sum;
        }

        private int headUnits() {
            return count > 0 ? units[0] : 0;
        }

        private boolean headIsCarded() {
            return count > 0 && carded[0];
        }

        // Whatever comes into a market or an inbox comes with a card, a begun container too.
        private void add(int filled) {
            if (count >= 0 && count < PLACES) {
                units[count] = filled;
                carded[count] = true;
                count++;
            }
        }

        private void removeHead() {
            if (count < 1) {
                return;
            }
            for (int i = 1; i < count && i < PLACES; i++) {
                units[i - 1] = units[i];
                carded[i - 1] = carded[i];
            }
            count--;
        }

        /** The caller knows where the cards go that come off, so their number is the answer. */
        private int takeOut(int wanted, boolean ruleIsFirst) {
            int missing = wanted;
            int cardsOff = 0;
            for (int n = count; n > 0 && missing > 0; n--) {
                int part = Math.min(missing, units[0]);
                missing -= part;
                units[0] -= part;
                boolean empty = units[0] == 0;
                if (carded[0] && (ruleIsFirst || empty)) {
                    carded[0] = false;
                    cardsOff++;
                }
                if (empty) {
                    removeHead();
                }
            }
            return cardsOff;
        }
    }

    /** The containers that travel to an inbox, in the order in which they set out. */
    private static final class Road {
        private final int[] units;
        private final int[] stepsToGo;
        private int count;

        private Road() {
            units = new int[MOST_CONVEYANCE];
            stepsToGo = new int[MOST_CONVEYANCE];
            count = 0;
        }

        private int allUnits() {
            int sum = 0;
            for (int i = 0; i < count && i < MOST_CONVEYANCE; i++) {
                sum += units[i];
            }
            return sum;
        }

        // Each container that travels has a conveyance card, so there is always a place.
        private void add(int filled, int steps) {
            if (count >= 0 && count < MOST_CONVEYANCE) {
                units[count] = filled;
                stepsToGo[count] = steps;
                count++;
            }
        }

        // A later container may be there first, by a shorter way, so all are looked at, in their order.
        private void bringTo(Store inbox) {
            int stay = 0;
            for (int i = 0; i < count && i < MOST_CONVEYANCE; i++) {
                int toGo = stepsToGo[i] - 1;
                if (toGo > 0) {
                    units[stay] = units[i];
                    stepsToGo[stay] = toGo;
                    stay++;
                } else {
                    inbox.add(units[i]);
                }
            }
            count = stay;
        }
    }
}
