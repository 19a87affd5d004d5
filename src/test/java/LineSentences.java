/** The promises 1 to 7: a new object, and the calls that lay the line out. */
final class LineSentences {
    private static final String STAGE = "Promise 2";
    private static final String WAY = "Promise 3";
    private static final String MARK = "Promise 4";
    private static final String RULE = "Promise 5";
    private static final String DEMAND = "Promise 6";
    private static final String STOP = "Promise 7";
    private static final String NO_SUCH_STAGE = "Throws `IndexOutOfBoundsException` if there is no such stage";

    private final Sentences doc;

    LineSentences(Sentences doc) {
        this.doc = doc;
    }

    void all() {
        doc.says("Promise 1", "Makes a line without stages, with the demand 0 and the rule LAST.", this::newObject);
        stage();
        way();
        mark();
        ruleAndDemand();
        stop();
    }

    private void stage() {
        doc.says(STAGE, "Adds a stage behind all others.", this::behindAllOthers);
        doc.says(STAGE, "If it is not the first one, it has one conveyance card, which waits, and a way of 0.",
                this::oneConveyanceCardAndNoWay);
        doc.says(STAGE, "The market that was the last one so far supplies it from then on.", this::takesTheSupplyOver);
        doc.says(STAGE, "`cards`: 1 to 9: its production cards", this::cardsOfAStage);
        doc.says(STAGE, "`size`: 1 to 10", this::sizeOfAStage);
        doc.says(STAGE, "`time`: 1 to 9", this::timeOfAStage);
        doc.says(STAGE, "`mark`: 1 to 9", this::markOfAStage);
        doc.says(STAGE, "`full`: whether its market has as many full containers as there are cards, with these attached;"
                + " otherwise they are on the board", this::fullOrNot);
        doc.says(STAGE, "Returns its number.", this::numberOfAStage);
        doc.says(STAGE, "Throws `IllegalArgumentException` if an argument is out of its range",
                this::stageBeyondItsRanges);
        doc.says(STAGE, "Throws `IllegalStateException` if there are 6 stages", this::seventhStage);
    }

    private void way() {
        doc.says(WAY, "Sets how long the way to an inbox is, for containers that set out later.", this::laterContainers);
        doc.says(WAY, "`stage`: the stage, 1 or more", () -> doc.acceptsStages(1, (line, at) -> line.way(at, 1)));
        doc.says(WAY, "`steps`: 0 to 5", this::stepsOfAWay);
        doc.says(WAY, "Returns how long it was.", this::wayBefore);
        doc.says(WAY, NO_SUCH_STAGE, () -> {
            doc.refusesNoStage(1, (line, at) -> line.way(at, 1));
            doc.refusesNoStage(1, (line, at) -> line.way(at, 6));
        });
        doc.says(WAY, "Throws `IllegalArgumentException` if steps is out of its range",
                () -> doc.refusesBeyond(() -> Lines.busy(3), 0, 5, (line, steps) -> line.way(2, steps)));
    }

    private void mark() {
        doc.says(MARK, "Sets the mark of a stage; a run that is on goes on.", this::markAndRun);
        doc.says(MARK, "`stage`: the stage", () -> doc.acceptsStages(0, (line, at) -> line.mark(at, 1)));
        doc.says(MARK, "`mark`: 1 to 9", this::marks);
        doc.says(MARK, "Returns the mark before.", this::markBefore);
        doc.says(MARK, NO_SUCH_STAGE, () -> {
            doc.refusesNoStage(0, (line, at) -> line.mark(at, 1));
            doc.refusesNoStage(0, (line, at) -> line.mark(at, 0));
        });
        doc.says(MARK, "Throws `IllegalArgumentException` if mark is out of its range",
                () -> doc.refusesBeyond(() -> Lines.busy(3), 1, 9, (line, mark) -> line.mark(2, mark)));
    }

    private void ruleAndDemand() {
        doc.says(RULE, "Sets the rule.", this::ruleIsSet);
        doc.says(RULE, "`first`: true for FIRST, false for LAST", this::firstIsTrue);
        doc.says(RULE, "Returns whether it was FIRST.", this::ruleBefore);
        doc.says(DEMAND, "Sets the demand.", this::demandIsSet);
        doc.says(DEMAND, "`units`: 0 to 20", this::unitsOfADemand);
        doc.says(DEMAND, "Returns the demand before.", this::demandBefore);
        doc.says(DEMAND, "Throws `IllegalArgumentException` if units is out of its range",
                () -> doc.refusesBeyond(() -> Lines.busy(3), 0, 20, KanbanLoop::demand));
    }

    private void stop() {
        doc.says(STOP, "Stops a stage, or lets it go on, if it is stopped.", this::stopsOrLetsGoOn);
        doc.says(STOP, "`stage`: the stage", () -> doc.acceptsStages(0, KanbanLoop::stop));
        doc.says(STOP, "Returns whether it is stopped then.", this::whetherItIsStopped);
        doc.says(STOP, NO_SUCH_STAGE, () -> doc.refusesNoStage(0, KanbanLoop::stop));
    }

    private void newObject() {
        KanbanLoop line = new KanbanLoop();
        doc.same("stages", line.stages(), 0);
        doc.refuses("the stage 0", KanbanLoop::new, Sentences.NO_STAGE, made -> made.board(0));
        doc.same("the demand", line.demand(1), 0);
        doc.isTrue("the rule", !line.rule(true));
        KanbanLoop noDemand = new KanbanLoop();
        noDemand.stage(1, 1, 1, 1, true);
        doc.same("nobody takes anything", noDemand.step(2), 0);
        doc.same("nobody wants anything", noDemand.backlog(), 0);
    }

    private void behindAllOthers() {
        KanbanLoop line = Lines.of(1, 3, 1, 9, true);
        line.stage(1, 5, 1, 9, true);
        line.demand(1);
        line.step(1);
        doc.same("customers take of the new one", line.market(1), 4);
        doc.same("the new one is supplied", line.inbox(1), 3);
        doc.same("the one ahead has no inbox", line.inbox(0), 0);
    }

    private void oneConveyanceCardAndNoWay() {
        KanbanLoop line = Lines.of(1, 3, 1, 9, true);
        doc.same("the first one has no card", line.waiting(0), 0);
        doc.refuses("nor a way", () -> Lines.of(1, 3, 1, 9, true), Sentences.NO_STAGE, one -> one.way(0, 1));
        line.stage(1, 1, 1, 9, false);
        doc.same("it waits", line.waiting(1), 1);
        doc.refuses("it is the only one", () -> Lines.plain(2), Sentences.BAD_STATE, two -> two.retireConveyance(1));
        line.step(1);
        doc.same("it does not travel", line.travelling(1), 0);
        doc.same("it is there at once", line.inbox(1), 3);
        doc.same("the way was 0", line.way(1, 1), 0);
        doc.same("a second card", line.issueConveyance(1), 2);
    }

    private void takesTheSupplyOver() {
        KanbanLoop line = Lines.of(2, 3, 1, 9, true);
        line.demand(2);
        line.step(1);
        doc.same("customers took of the last market", line.market(0), 4);
        line.stage(1, 10, 1, 9, true);
        line.step(1);
        doc.same("then of the new last one", line.market(1), 8);
        doc.same("the begun container went to the new inbox", line.inbox(1), 1);
        doc.same("no unit more is gone", line.market(0), 3);
    }

    private void cardsOfAStage() {
        doc.acceptsBothEnds(KanbanLoop::new, 1, 9, (line, cards) -> line.stage(cards, 1, 1, 1, true));
        doc.refusesBeyond(() -> Lines.busy(2), 1, 9, (line, cards) -> line.stage(cards, 1, 1, 1, true));
        for (int cards : new int[] {1, 9}) {
            doc.same("on the board", Lines.of(cards, 1, 1, 9, false).board(0), cards);
            doc.same("attached", Lines.of(cards, 1, 1, 9, true).attached(0), cards);
        }
        doc.same("one card more than 8", Lines.of(8, 1, 1, 9, false).issue(0), 9);
        doc.refuses("one card more than 9", () -> Lines.of(9, 1, 1, 9, false), Sentences.BAD_STATE,
                line -> line.issue(0));
    }

    private void sizeOfAStage() {
        doc.acceptsBothEnds(KanbanLoop::new, 1, 10, (line, size) -> line.stage(1, size, 1, 1, true));
        doc.refusesBeyond(() -> Lines.busy(2), 1, 10, (line, size) -> line.stage(1, size, 1, 1, true));
        for (int size : new int[] {1, 10}) {
            doc.same("nine containers", Lines.of(9, size, 1, 9, true).market(0), 9 * size);
        }
    }

    private void timeOfAStage() {
        doc.acceptsBothEnds(KanbanLoop::new, 1, 9, (line, time) -> line.stage(1, 1, time, 1, true));
        doc.refusesBeyond(() -> Lines.busy(2), 1, 9, (line, time) -> line.stage(1, 1, time, 1, true));
        for (int time : new int[] {1, 9}) {
            KanbanLoop line = Lines.of(1, 1, time, 1, false);
            line.step(1);
            doc.same("to do", line.left(0), time);
            line.step(time - 1 > 0 ? time - 1 : 1);
            doc.same("to do a little later", line.left(0), time - 1 > 0 ? 1 : 0);
        }
    }

    private void markOfAStage() {
        doc.acceptsBothEnds(KanbanLoop::new, 1, 9, (line, mark) -> line.stage(1, 1, 1, mark, true));
        doc.refusesBeyond(() -> Lines.busy(2), 1, 9, (line, mark) -> line.stage(1, 1, 1, mark, true));
        for (int cards = 1; cards <= 9; cards++) {
            KanbanLoop lowest = Lines.of(cards, 1, 9, 1, false);
            lowest.step(1);
            doc.same("a run at the mark 1, with cards " + cards, lowest.run(0), cards - 1);
            KanbanLoop highest = Lines.of(cards, 1, 9, 9, false);
            highest.step(1);
            doc.same("a run at the mark 9, with cards " + cards, highest.run(0), cards == 9 ? 8 : 0);
            doc.same("a container then", highest.left(0), cards == 9 ? 9 : 0);
        }
    }

    private void fullOrNot() {
        for (int cards : new int[] {1, 2, 9}) {
            KanbanLoop full = Lines.of(cards, 10, 1, 9, true);
            doc.same("full: units", full.market(0), 10 * cards);
            doc.same("full: the first one", full.firstUnits(0), 10);
            doc.same("full: attached", full.attached(0), cards);
            doc.same("full: on the board", full.board(0), 0);
            KanbanLoop empty = Lines.of(cards, 10, 1, 9, false);
            doc.same("not full: units", empty.market(0), 0);
            doc.same("not full: the first one", empty.firstUnits(0), 0);
            doc.same("not full: attached", empty.attached(0), 0);
            doc.same("not full: on the board", empty.board(0), cards);
        }
    }

    private void numberOfAStage() {
        KanbanLoop line = new KanbanLoop();
        for (int i = 0; i < 6; i++) {
            doc.same("the number", line.stage(1, 1, 1, 1, i % 2 == 0), i);
        }
    }

    private void stageBeyondItsRanges() {
        int[] least = {1, 1, 1, 1};
        int[] most = {9, 10, 9, 9};
        for (int stages : new int[] {0, 5, 6}) {
            for (int at = 0; at < 4; at++) {
                int which = at;
                doc.refusesBeyond(() -> Lines.roomy(stages), least[at], most[at], (line, value) -> {
                    int[] all = {1, 1, 1, 1};
                    all[which] = value;
                    line.stage(all[0], all[1], all[2], all[3], false);
                });
            }
        }
        doc.refuses("all of them", () -> Lines.busy(1), Sentences.BAD_ARGUMENT, line -> line.stage(0, 0, 0, 0, true));
        doc.accepts("the least of all", () -> Lines.roomy(5).stage(1, 1, 1, 1, false));
        doc.accepts("the most of all", () -> Lines.roomy(5).stage(9, 10, 9, 9, true));
    }

    private void seventhStage() {
        for (int stages = 0; stages <= 5; stages++) {
            KanbanLoop line = Lines.busy(stages);
            doc.accepts("a stage behind " + stages, () -> line.stage(9, 10, 9, 9, true));
        }
        doc.refuses("a stage behind 6", () -> Lines.busy(6), Sentences.BAD_STATE,
                line -> line.stage(9, 10, 9, 9, true));
    }

    private void laterContainers() {
        KanbanLoop line = Lines.of(4, 1, 1, 9, true);
        line.stage(1, 10, 1, 9, false);
        line.way(1, 3);
        line.step(1);
        line.way(1, 0);
        doc.same("the one that travels goes on", line.travelling(1), 1);
        line.issueConveyance(1);
        line.step(1);
        doc.same("the later one is there at once", line.inbox(1), 1);
        line.way(1, 5);
        line.step(1);
        doc.same("the earlier one is not there", line.inbox(1), 1);
        line.step(1);
        doc.same("it is there after three steps", line.inbox(1), 2);
        line.issueConveyance(1);
        line.step(5);
        doc.same("the last one travels still", line.travelling(1), 1);
        line.step(1);
        doc.same("and is there after five", line.inbox(1), 3);
    }

    private void stepsOfAWay() {
        doc.acceptsBothEnds(() -> Lines.busy(2), 0, 5, (line, steps) -> line.way(1, steps));
        doc.refusesBeyond(() -> Lines.busy(2), 0, 5, (line, steps) -> line.way(1, steps));
        for (int steps = 0; steps <= 5; steps++) {
            KanbanLoop line = Lines.of(1, 1, 1, 9, true);
            line.stage(1, 10, 1, 9, false);
            line.way(1, steps);
            line.step(1);
            for (int gone = 0; gone < steps; gone++) {
                doc.same("it travels, of " + steps + " gone " + gone, line.travelling(1), 1);
                doc.same("it is not there, of " + steps + " gone " + gone, line.inbox(1), 0);
                line.step(1);
            }
            doc.same("it travels no more, after " + steps, line.travelling(1), 0);
            doc.same("it is there after " + steps, line.inbox(1), 1);
        }
    }

    private void wayBefore() {
        KanbanLoop line = Lines.plain(3);
        doc.same("at first", line.way(1, 5), 0);
        doc.same("the longest", line.way(1, 0), 5);
        doc.same("the shortest", line.way(1, 4), 0);
        doc.same("another stage's", line.way(2, 1), 0);
        doc.same("as it is", line.way(1, 4), 4);
    }

    private void markAndRun() {
        KanbanLoop line = Lines.of(3, 1, 1, 3, false);
        line.step(1);
        line.mark(0, 9);
        doc.same("the run stays", line.run(0), 2);
        line.step(2);
        doc.same("it goes on to its last container", line.run(0), 0);
        doc.same("which is in work", line.left(0), 1);
        line.step(1);
        doc.same("all are made", line.attached(0), 3);
        for (int mark = 3; mark <= 5; mark++) {
            KanbanLoop four = Lines.of(4, 1, 1, 9, false);
            four.step(1);
            four.mark(0, mark);
            four.step(1);
            doc.same("four cards at the mark " + mark, four.run(0), mark <= 4 ? 3 : 0);
        }
    }

    private void marks() {
        doc.acceptsBothEnds(() -> Lines.busy(2), 1, 9, (line, mark) -> line.mark(1, mark));
        doc.refusesBeyond(() -> Lines.busy(2), 1, 9, (line, mark) -> line.mark(1, mark));
        for (int cards = 8; cards <= 9; cards++) {
            KanbanLoop line = Lines.of(cards, 1, 9, 5, false);
            line.mark(0, 9);
            line.step(1);
            doc.same("a run at the mark 9, with cards " + cards, line.run(0), cards == 9 ? 8 : 0);
        }
        KanbanLoop one = Lines.of(1, 1, 9, 5, false);
        one.mark(0, 1);
        one.step(1);
        doc.same("one card at the mark 1", one.left(0), 9);
    }

    private void markBefore() {
        KanbanLoop line = Lines.of(1, 1, 1, 5, true);
        line.stage(1, 1, 1, 6, true);
        doc.same("as it was added", line.mark(0, 9), 5);
        doc.same("the highest", line.mark(0, 1), 9);
        doc.same("the lowest", line.mark(0, 2), 1);
        doc.same("another stage's", line.mark(1, 1), 6);
    }

    private void ruleIsSet() {
        KanbanLoop line = Lines.of(2, 3, 1, 9, true);
        line.demand(1);
        line.rule(true);
        line.step(1);
        doc.same("under FIRST the card is off", line.board(0), 1);
        line.rule(false);
        line.step(3);
        doc.same("under LAST the next one is begun, its card is not off", line.board(0), 1);
        doc.same("it is begun", line.firstUnits(0), 2);
        line.rule(true);
        line.step(1);
        doc.same("under FIRST again", line.board(0), 2);
    }

    private void firstIsTrue() {
        for (boolean first : new boolean[] {true, false}) {
            KanbanLoop line = Lines.of(1, 2, 1, 9, true);
            line.demand(1);
            line.rule(first);
            line.step(1);
            doc.same("cards off with the first unit: " + first, line.board(0), first ? 1 : 0);
            line.step(1);
            doc.same("cards off with the last unit: " + first, line.board(0), 1);
        }
    }

    private void ruleBefore() {
        KanbanLoop line = new KanbanLoop();
        doc.isTrue("LAST at first", !line.rule(false));
        doc.isTrue("LAST, set again", !line.rule(true));
        doc.isTrue("FIRST", line.rule(true));
        doc.isTrue("FIRST, set again", line.rule(false));
        doc.isTrue("LAST", !line.rule(false));
    }

    private void demandIsSet() {
        KanbanLoop line = Lines.of(9, 10, 9, 9, true);
        for (int units : new int[] {0, 1, 19, 20}) {
            line.demand(units);
            doc.same("taken by a demand of " + units, line.step(1), units);
            doc.same("in the next step too", line.step(1), units);
        }
    }

    private void unitsOfADemand() {
        doc.acceptsBothEnds(() -> Lines.busy(2), 0, 20, KanbanLoop::demand);
        doc.refusesBeyond(() -> Lines.busy(2), 0, 20, KanbanLoop::demand);
        KanbanLoop line = Lines.of(1, 1, 1, 9, false);
        line.demand(20);
        line.step(1);
        doc.same("the most", line.backlog(), 20);
        line.demand(0);
        line.step(1);
        doc.same("the least", line.backlog(), 20);
    }

    private void demandBefore() {
        KanbanLoop line = new KanbanLoop();
        doc.same("at first", line.demand(20), 0);
        doc.same("the most", line.demand(0), 20);
        doc.same("the least", line.demand(7), 0);
        line.stage(1, 1, 1, 1, true);
        line.step(1);
        doc.same("the demand without the backlog", line.demand(7), 7);
    }

    private void stopsOrLetsGoOn() {
        KanbanLoop line = Lines.of(2, 1, 2, 2, false);
        line.step(1);
        line.stop(0);
        line.step(3);
        doc.same("stopped: no step is done", line.left(0), 2);
        line.stop(0);
        line.step(1);
        doc.same("it goes on", line.left(0), 1);
        line.step(1);
        doc.same("with the next one", line.left(0), 2);
        line.stop(0);
        line.step(1);
        doc.same("stopped again", line.left(0), 2);
        KanbanLoop other = Lines.of(1, 1, 1, 1, false);
        other.stage(1, 1, 1, 1, true);
        other.stop(1);
        other.step(1);
        doc.same("the other one is not stopped", other.left(0), 1);
    }

    private void whetherItIsStopped() {
        KanbanLoop line = Lines.plain(2);
        doc.isTrue("stopped", line.stop(0));
        doc.isTrue("the other one too", line.stop(1));
        doc.isTrue("it goes on", !line.stop(0));
        doc.isTrue("stopped again", line.stop(0));
        doc.isTrue("the other one goes on", !line.stop(1));
    }
}
