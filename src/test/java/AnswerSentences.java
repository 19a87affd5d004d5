import java.util.function.ObjIntConsumer;

/** The promises 15 to 30: what is, and what was. */
final class AnswerSentences {
    private static final String NO_SUCH_STAGE = "Throws `IndexOutOfBoundsException` if there is no such stage";
    private static final String AN_EMPTY_ONE = "Returns how many; 0 for the stage 0.";

    private final Sentences doc;

    AnswerSentences(Sentences doc) {
        this.doc = doc;
    }

    void all() {
        doc.says("Promise 15", "Returns the number of stages.", this::stages);
        productionOfAStage();
        unitsOfAStage();
        conveyanceOfAStage();
        whatWas();
    }

    private void productionOfAStage() {
        question("Promise 16", KanbanLoop::board);
        doc.says("Promise 16", "Returns how many production cards are on the board of a stage.", this::board);
        doc.says("Promise 16", "Returns how many.", this::boardIsTheStages);
        question("Promise 17", KanbanLoop::attached);
        doc.says("Promise 17", "Returns how many production cards are attached to containers in the market of a stage.",
                this::attached);
        doc.says("Promise 17", "Returns how many.", this::attachedIsTheStages);
        question("Promise 18", KanbanLoop::left);
        doc.says("Promise 18", "Returns how many steps a stage has left to do on its container.", this::left);
        doc.says("Promise 18", "Returns how many; 0 if it works on none.", this::leftOfNone);
        question("Promise 19", KanbanLoop::run);
        doc.says("Promise 19", "Returns how many containers the run of a stage still has to begin.", this::run);
        doc.says("Promise 19", "Returns how many; 0 if no run is on.", this::noRun);
    }

    private void unitsOfAStage() {
        question("Promise 20", KanbanLoop::market);
        doc.says("Promise 20", "Returns how many units are in the market of a stage.", this::market);
        doc.says("Promise 20", "Returns the units.", this::marketIsTheStages);
        question("Promise 21", KanbanLoop::inbox);
        doc.says("Promise 21", "Returns how many units are in the inbox of a stage.", this::inbox);
        doc.says("Promise 21", "Returns the units; 0 for the stage 0.", this::inboxOfTheFirst);
        question("Promise 24", KanbanLoop::firstUnits);
        doc.says("Promise 24", "Returns how many units the container has that came first in a market.", this::firstUnits);
        doc.says("Promise 24", "Returns the units; 0 if the market is empty.", this::firstOfNone);
    }

    private void conveyanceOfAStage() {
        question("Promise 22", KanbanLoop::waiting);
        doc.says("Promise 22", "Returns how many conveyance cards of a stage wait.", this::waiting);
        doc.says("Promise 22", AN_EMPTY_ONE, this::waitingOfTheFirst);
        question("Promise 23", KanbanLoop::travelling);
        doc.says("Promise 23", "Returns how many containers travel to the inbox of a stage.", this::travelling);
        doc.says("Promise 23", AN_EMPTY_ONE, this::travellingOfTheFirst);
    }

    private void whatWas() {
        doc.says("Promise 25", "Returns how many units customers took so far.", this::taken);
        doc.says("Promise 26", "Returns the backlog.", this::backlog);
        doc.says("Promise 27", "Returns how many steps were short.", this::shortSteps);
        question("Promise 28", KanbanLoop::starved);
        doc.says("Promise 28", "Returns how many steps were starved for a stage.", this::starved);
        doc.says("Promise 28", "Returns how many.", this::starvedIsTheStages);
        doc.says("Promise 29", "Returns how many units there are in the line: in all markets and inboxes, on all ways, and"
                + " in the containers on which stages work.", this::stock);
        doc.says("Promise 30", "Returns the same, counted by what went in and out: the units that were in full markets as"
                + " stages were added, and those that the first stage began to make, less those that customers took.",
                this::stockByFlow);
    }

    private void question(String part, ObjIntConsumer<KanbanLoop> call) {
        doc.says(part, "`stage`: the stage", () -> doc.acceptsStages(0, call));
        doc.says(part, NO_SUCH_STAGE, () -> doc.refusesNoStage(0, call));
    }

    private void stages() {
        KanbanLoop line = new KanbanLoop();
        doc.same("none", line.stages(), 0);
        for (int i = 1; i <= 6; i++) {
            line.stage(9, 1, 1, 1, true);
            doc.same("added", line.stages(), i);
        }
        Checks.thrownBy(() -> line.stage(1, 1, 1, 1, true));
        doc.same("a seventh was refused", line.stages(), 6);
    }

    private void board() {
        doc.same("none", Lines.of(9, 1, 1, 9, true).board(0), 0);
        doc.same("one", Lines.of(1, 1, 1, 9, false).board(0), 1);
        doc.same("nine", Lines.of(9, 1, 1, 9, false).board(0), 9);
        KanbanLoop line = Lines.of(2, 1, 2, 1, false);
        line.step(1);
        doc.same("without the one in work", line.board(0), 1);
        line.step(2);
        doc.same("without the one attached", line.board(0), 0);
    }

    private void boardIsTheStages() {
        KanbanLoop line = Lines.roomy(6);
        for (int i = 0; i < 6; i++) {
            doc.same("of the stage " + i, line.board(i), 2 + i);
        }
    }

    private void attached() {
        doc.same("none", Lines.of(9, 1, 1, 9, false).attached(0), 0);
        doc.same("nine", Lines.of(9, 1, 1, 9, true).attached(0), 9);
        KanbanLoop line = Lines.of(2, 2, 1, 9, true);
        line.rule(true);
        line.demand(1);
        line.step(1);
        doc.same("without the one that came off, though its container is there", line.attached(0), 1);
        doc.same("the container is there", line.market(0), 3);
        line.stage(1, 9, 1, 9, false);
        line.issueConveyance(1);
        line.step(1);
        doc.same("conveyance cards do not count", line.attached(0), 0);
        doc.same("nor do those in the inbox", line.attached(1), 0);
    }

    private void attachedIsTheStages() {
        KanbanLoop line = filled();
        for (int i = 0; i < 6; i++) {
            doc.same("of the stage " + i, line.attached(i), 1 + i);
        }
    }

    /** Six full markets, each with a number and a size of its own. */
    private static KanbanLoop filled() {
        KanbanLoop line = new KanbanLoop();
        for (int i = 0; i < 6; i++) {
            line.stage(1 + i, 10 - i, 1, 9, true);
        }
        return line;
    }

    private void left() {
        KanbanLoop line = Lines.of(2, 1, 9, 2, false);
        line.step(1);
        doc.same("as many as its time", line.left(0), 9);
        line.step(8);
        doc.same("one", line.left(0), 1);
        line.step(1);
        doc.same("on the next container", line.left(0), 9);
        KanbanLoop two = Lines.of(1, 1, 9, 1, false);
        two.stage(1, 1, 2, 1, false);
        two.step(1);
        doc.same("of the stage 0", two.left(0), 9);
        doc.same("of the stage 1", two.left(1), 0);
    }

    private void leftOfNone() {
        KanbanLoop line = Lines.of(1, 1, 2, 1, false);
        doc.same("before the first", line.left(0), 0);
        line.step(1);
        doc.same("on one", line.left(0), 2);
        line.step(2);
        doc.same("after it", line.left(0), 0);
        KanbanLoop starving = Lines.plain(2);
        starving.mark(1, 1);
        starving.step(1);
        doc.same("a run is on, but it starves", starving.left(1), 0);
        doc.same("a run is on", starving.run(1), 1);
    }

    private void run() {
        KanbanLoop line = Lines.of(9, 1, 1, 9, false);
        for (int left = 8; left >= 0; left--) {
            line.step(1);
            doc.same("of nine", line.run(0), left);
        }
        KanbanLoop starving = Lines.plain(2);
        starving.issue(1);
        starving.mark(1, 2);
        starving.step(1);
        doc.same("all of them, none begun", starving.run(1), 2);
        doc.same("the other stage has none", starving.run(0), 0);
    }

    private void noRun() {
        KanbanLoop line = Lines.of(1, 1, 2, 1, false);
        doc.same("before the first", line.run(0), 0);
        line.step(1);
        doc.same("over with its last container, that is in work", line.run(0), 0);
        doc.same("it is in work", line.left(0), 2);
        KanbanLoop below = Lines.of(8, 1, 1, 9, false);
        below.step(1);
        doc.same("below the mark", below.run(0), 0);
    }

    private void market() {
        doc.same("none", Lines.of(9, 10, 1, 9, false).market(0), 0);
        doc.same("one", Lines.of(1, 1, 1, 9, true).market(0), 1);
        doc.same("ninety", Lines.of(9, 10, 1, 9, true).market(0), 90);
        KanbanLoop most = Lines.of(9, 10, 1, 1, true);
        most.rule(true);
        most.demand(1);
        most.step(1);
        most.demand(0);
        most.step(1);
        doc.same("a begun one and nine more", most.market(0), 99);
        doc.same("all nine cards attached", most.attached(0), 9);
        doc.same("the begun one is first", most.firstUnits(0), 9);
        most.stop(0);
        most.demand(20);
        doc.same("all of them can be taken", most.step(5), 99);
    }

    private void marketIsTheStages() {
        KanbanLoop line = filled();
        for (int i = 0; i < 6; i++) {
            doc.same("of the stage " + i, line.market(i), (1 + i) * (10 - i));
        }
    }

    /** The most: five containers with a card each, and one that is begun under FIRST. */
    private void inbox() {
        KanbanLoop line = Lines.of(9, 10, 1, 9, true);
        line.stage(1, 1, 1, 9, false);
        doc.same("none", line.inbox(1), 0);
        line.step(1);
        doc.same("one container", line.inbox(1), 10);
        for (int i = 0; i < 4; i++) {
            line.issueConveyance(1);
        }
        line.step(1);
        doc.same("five containers", line.inbox(1), 50);
        line.rule(true);
        line.mark(1, 1);
        line.step(1);
        doc.same("a begun one and five more", line.inbox(1), 59);
        doc.same("what is on its way is not there", Lines.busy(1).inbox(0), 0);
        KanbanLoop way = Lines.of(1, 10, 1, 9, true);
        way.stage(1, 1, 1, 9, true);
        way.way(1, 1);
        way.step(1);
        doc.same("nor is what travels", way.inbox(1), 0);
        way.step(1);
        doc.same("until it is there", way.inbox(1), 10);
    }

    private void inboxOfTheFirst() {
        KanbanLoop line = filled();
        line.step(1);
        doc.same("of the stage 0", line.inbox(0), 0);
        for (int i = 1; i < 6; i++) {
            doc.same("of the stage " + i, line.inbox(i), 11 - i);
        }
        doc.same("of the stage 0, when it works", workingFirst().inbox(0), 0);
    }

    private static KanbanLoop workingFirst() {
        KanbanLoop line = Lines.of(3, 2, 2, 1, false);
        line.stage(1, 5, 1, 1, false);
        line.way(1, 2);
        line.step(4);
        return line;
    }

    private void waiting() {
        KanbanLoop line = Lines.of(9, 1, 1, 9, true);
        line.stage(1, 9, 1, 9, false);
        doc.same("one", line.waiting(1), 1);
        line.step(1);
        doc.same("none, it is in the inbox", line.waiting(1), 0);
        for (int i = 0; i < 4; i++) {
            line.issueConveyance(1);
        }
        doc.same("four", line.waiting(1), 4);
        line.way(1, 1);
        line.step(1);
        doc.same("none, they travel", line.waiting(1), 0);
        KanbanLoop five = Lines.plain(2);
        for (int i = 0; i < 4; i++) {
            five.issueConveyance(1);
        }
        five.step(1);
        doc.same("five, for there is no container", five.waiting(1), 5);
    }

    private void waitingOfTheFirst() {
        doc.same("a line of one", Lines.plain(1).waiting(0), 0);
        doc.same("a line of three", Lines.roomy(3).waiting(0), 0);
        doc.same("the next stage's", Lines.roomy(3).waiting(1), 2);
        doc.same("in work", workingFirst().waiting(0), 0);
    }

    private void travelling() {
        KanbanLoop line = Lines.of(9, 3, 1, 9, true);
        line.stage(1, 9, 1, 9, false);
        line.way(1, 2);
        doc.same("none", line.travelling(1), 0);
        line.step(1);
        doc.same("one, of three units", line.travelling(1), 1);
        for (int i = 0; i < 4; i++) {
            line.issueConveyance(1);
        }
        line.step(1);
        doc.same("five", line.travelling(1), 5);
        line.step(1);
        doc.same("the first one is there", line.travelling(1), 4);
        line.step(1);
        doc.same("all are there", line.travelling(1), 0);
        KanbanLoop noWay = Lines.of(9, 3, 1, 9, true);
        noWay.stage(1, 9, 1, 9, false);
        noWay.step(1);
        doc.same("by a way of 0 none travels", noWay.travelling(1), 0);
    }

    private void travellingOfTheFirst() {
        KanbanLoop line = workingFirst();
        doc.same("of the stage 0", line.travelling(0), 0);
        doc.same("of the stage 1", line.travelling(1), 1);
        doc.same("of the only stage", Lines.busy(1).travelling(0), 0);
    }

    private void firstUnits() {
        KanbanLoop line = Lines.of(2, 3, 1, 9, true);
        line.stage(2, 10, 1, 9, true);
        doc.same("full", line.firstUnits(1), 10);
        doc.same("full, the other stage's", line.firstUnits(0), 3);
        line.demand(9);
        line.step(1);
        doc.same("one unit", line.firstUnits(1), 1);
        line.demand(1);
        line.step(1);
        doc.same("the next one", line.firstUnits(1), 10);
    }

    private void firstOfNone() {
        doc.same("nothing was made", Lines.of(2, 3, 1, 9, false).firstUnits(0), 0);
        KanbanLoop line = Lines.of(1, 2, 1, 9, true);
        line.demand(1);
        line.step(1);
        doc.same("one is left", line.firstUnits(0), 1);
        line.step(1);
        doc.same("all is taken", line.firstUnits(0), 0);
        KanbanLoop fetched = Lines.inboxOf(1, 2, 9, 1);
        doc.same("all is fetched", fetched.firstUnits(0), 0);
    }

    private void taken() {
        KanbanLoop line = Lines.of(1, 10, 9, 9, true);
        doc.same("none", line.taken(), 0);
        line.demand(4);
        line.step(2);
        doc.same("in two steps", line.taken(), 8);
        line.step(1);
        doc.same("what there was", line.taken(), 10);
        line.step(1);
        doc.same("no more", line.taken(), 10);
        KanbanLoop inner = Lines.inboxOf(1, 2, 2, 1);
        inner.mark(1, 8);
        inner.step(1);
        doc.same("what a stage takes does not count", inner.taken(), 0);
    }

    private void backlog() {
        KanbanLoop line = Lines.of(1, 10, 9, 9, true);
        doc.same("none", line.backlog(), 0);
        line.demand(10);
        line.step(1);
        doc.same("just enough", line.backlog(), 0);
        line.demand(1);
        line.step(1);
        doc.same("one unit", line.backlog(), 1);
        line.demand(20);
        line.step(50);
        doc.same("a thousand more", line.backlog(), 1001);
        line.stage(9, 10, 9, 9, true);
        line.demand(0);
        line.step(1);
        doc.same("ninety less", line.backlog(), 911);
    }

    private void shortSteps() {
        KanbanLoop line = Lines.of(1, 10, 9, 9, true);
        line.demand(5);
        line.step(2);
        doc.same("none", line.shortSteps(), 0);
        line.step(1);
        doc.same("one", line.shortSteps(), 1);
        line.step(50);
        doc.same("steps, not calls", line.shortSteps(), 51);
    }

    private void starved() {
        KanbanLoop line = Lines.plain(2);
        doc.same("none", line.starved(1), 0);
        line.mark(1, 1);
        line.step(1);
        doc.same("one", line.starved(1), 1);
        line.step(50);
        doc.same("steps, not calls", line.starved(1), 51);
        line.mark(0, 1);
        line.step(2);
        doc.same("until there is enough", line.starved(1), 53);
        line.step(1);
        doc.same("then it works", line.starved(1), 53);
    }

    private void starvedIsTheStages() {
        KanbanLoop line = Lines.plain(4);
        line.mark(1, 1);
        line.mark(3, 1);
        line.step(2);
        line.stop(1);
        line.step(1);
        doc.same("the first", line.starved(0), 0);
        doc.same("the stopped one", line.starved(1), 2);
        doc.same("the one without a run", line.starved(2), 0);
        doc.same("the last", line.starved(3), 3);
    }

    /** Every place where units are, by itself. */
    private void stock() {
        doc.same("a new object", new KanbanLoop().stock(), 0);
        doc.same("a market", Lines.of(9, 10, 1, 9, true).stock(), 90);
        doc.same("all markets", filled().stock(), 10 + 18 + 24 + 28 + 30 + 30);
        doc.same("an inbox", Lines.inboxOf(2, 5, 9, 1).stock(), 10);
        KanbanLoop work = Lines.of(1, 7, 2, 1, false);
        work.step(1);
        doc.same("a container with two steps left", work.stock(), 7);
        work.step(1);
        doc.same("a container with one step left", work.stock(), 7);
        work.step(1);
        doc.same("in the market then", work.stock(), 7);
        work.stage(1, 9, 1, 9, false);
        work.way(1, 2);
        work.mark(0, 9);
        work.step(1);
        doc.same("on the way", work.stock(), 7);
        doc.same("it travels", work.travelling(1), 1);
        work.step(2);
        doc.same("in the inbox then", work.stock(), 7);
        KanbanLoop second = Lines.inboxOf(2, 5, 9, 4);
        second.mark(1, 8);
        second.step(1);
        doc.same("in work at another stage", second.stock(), 10);
    }

    private void stockByFlow() {
        doc.same("a new object", new KanbanLoop().stockByFlow(), 0);
        KanbanLoop line = Lines.of(2, 3, 2, 1, true);
        doc.same("a full market", line.stockByFlow(), 6);
        line.stage(1, 10, 1, 1, false);
        doc.same("an empty one", line.stockByFlow(), 6);
        line.stage(9, 10, 1, 9, true);
        doc.same("and a full one", line.stockByFlow(), 96);
        line.demand(3);
        line.step(1);
        doc.same("less what customers took", line.stockByFlow(), 93);
        doc.same("the first stage has not begun", line.left(0), 0);
        line.demand(0);
        line.step(1);
        doc.same("and what the first stage began", line.stockByFlow(), 96);
        doc.same("it has begun", line.left(0), 2);
        int backlogStock = line.stockByFlow();
        line.demand(20);
        line.step(5);
        doc.same("both are the same", line.stockByFlow(), line.stock());
        doc.isTrue("what customers did not get is not taken", line.backlog() > 0);
        doc.isTrue("there was a change", line.stock() < backlogStock);
        bothStocksOfBusyLines();
    }

    private void bothStocksOfBusyLines() {
        for (int stages = 1; stages <= Sentences.MOST_STAGES; stages++) {
            KanbanLoop line = Lines.busy(stages);
            for (int i = 0; i < 20; i++) {
                doc.same("both of " + stages, line.stockByFlow(), line.stock());
                line.step(1);
            }
        }
    }
}
