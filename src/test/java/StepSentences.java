/** What the document says of a step, and the promises 13 and 14. */
final class StepSentences {
    private static final String TERMS = "Terms";
    private static final String STEP = "Promise 13";

    private final Sentences doc;

    StepSentences(Sentences doc) {
        this.doc = doc;
    }

    void all() {
        doc.tellsNoAnswer(TERMS, "A step.");
        doc.says(TERMS, "The time grows by 1.", this::timeGrows);
        doc.tellsNoAnswer(TERMS, "Then:");
        customers();
        stages();
        inboxes();
        doc.says(STEP, "Lets steps pass.", this::manyAtOnceOrOneByOne);
        doc.says(STEP, "`steps`: 1 to 50", this::stepsOfACall);
        doc.says(STEP, "Returns how many units customers took in them.", this::takenInThem);
        doc.says(STEP, "Throws `IllegalArgumentException` if steps is out of its range", this::stepsBeyondTheRange);
        doc.says(STEP, "Throws `IllegalStateException` if there are no stages", this::noStages);
        doc.says("Promise 14", "Returns the time, 0 at first.", this::time);
    }

    private void customers() {
        doc.says(TERMS, "Customers want as many units as the demand, and those that they did not get so far.",
                this::whatCustomersWant);
        doc.says(TERMS, "They take as many of them as there are in the market of the last stage; what they did not get is"
                + " the backlog.", this::whatCustomersTake);
        doc.says(TERMS, "With a backlog the step counts as short.", this::shortSteps);
    }

    private void stages() {
        doc.says(TERMS, "Stage by stage, from the last one to the first one, unless it is stopped: if it works on a"
                + " container, there is one step less left to do; if none is left, the container comes into its market,"
                + " with its card attached, behind all others.", this::workOnAContainer);
        doc.says(TERMS, "If it does not work on one then, and no run is on, and its board has as many cards as its mark,"
                + " or more, a run begins, of as many containers as there are cards on the board.", this::runsBegin);
        doc.says(TERMS, "If a run is on, and the inbox has as many units as a container (always for the first stage),"
                + " these are taken, a card goes from the board to the container, and it works on that, with as many"
                + " steps to do as its time; the run has one container less to make, and is over with the last one.",
                this::containersAreBegun);
        doc.says(TERMS, "If a run is on, but the inbox has too few units, the step counts as starved for that stage.",
                this::starving);
    }

    private void inboxes() {
        doc.says(TERMS, "Inbox by inbox, from the last stage's to that of the stage 1: all containers that travel have"
                + " one step less to go; those with none left come into the inbox, in the order in which they set out.",
                this::arrivals);
        doc.says(TERMS, "Then, as long as a conveyance card waits and the market of the stage ahead has a container, the"
                + " one that came first is taken, perhaps begun: its production card, if that is still attached, is on"
                + " the board of its stage then, and it travels with the conveyance card for as many steps as the way is"
                + " long; with a way of 0 it is in the inbox at once.", this::settingOut);
    }

    private void timeGrows() {
        KanbanLoop line = Lines.busy(3);
        int before = line.time();
        line.step(1);
        doc.same("one step", line.time(), before + 1);
        line.step(50);
        doc.same("fifty steps", line.time(), before + 51);
        doc.refuses("no step", () -> Lines.busy(3), Sentences.BAD_ARGUMENT, busy -> busy.step(0));
    }

    /** After six units that nobody got, and a demand of 1 or 4: a market of 10 is enough for both. */
    private void whatCustomersWant() {
        for (int demand : new int[] {0, 1, 4, 5}) {
            KanbanLoop line = Lines.of(1, 1, 9, 9, false);
            line.demand(3);
            line.step(1);
            doc.same("the demand", line.backlog(), 3);
            line.step(1);
            doc.same("the demand, and what they did not get", line.backlog(), 6);
            line.stage(1, 10, 9, 9, true);
            line.demand(demand);
            doc.same("they get it later, with " + demand, line.step(1), Math.min(10, 6 + demand));
            doc.same("all but what the market had not, with " + demand, line.backlog(), demand == 5 ? 1 : 0);
            line.demand(0);
            line.step(1);
            doc.same("what they got they do not want again, with " + demand, line.backlog(), demand == 5 ? 1 : 0);
        }
    }

    private void whatCustomersTake() {
        for (int demand : new int[] {4, 5, 6}) {
            KanbanLoop line = Lines.of(1, 5, 9, 9, true);
            line.demand(demand);
            doc.same("taken of five, wanted " + demand, line.step(1), Math.min(5, demand));
            doc.same("left of five, wanted " + demand, line.market(0), demand == 4 ? 1 : 0);
            doc.same("the backlog, wanted " + demand, line.backlog(), demand == 6 ? 1 : 0);
        }
        KanbanLoop many = Lines.of(9, 2, 9, 9, true);
        many.demand(17);
        doc.same("of many containers", many.step(1), 17);
        doc.same("the last unit", many.step(1), 1);
        KanbanLoop empty = Lines.of(1, 5, 9, 9, false);
        empty.demand(1);
        doc.same("taken of none", empty.step(1), 0);
        KanbanLoop made = Lines.of(1, 5, 1, 1, false);
        made.demand(5);
        doc.same("what is made in a step comes after the customers", made.step(2), 0);
        doc.same("it is there then", made.market(0), 5);
        doc.same("for the next step", made.step(1), 5);
        KanbanLoop ahead = Lines.of(1, 5, 1, 9, true);
        ahead.stage(1, 5, 1, 9, false);
        ahead.demand(1);
        doc.same("the market ahead is not for customers", ahead.step(1), 0);
    }

    private void shortSteps() {
        for (int demand : new int[] {0, 4, 5, 6}) {
            KanbanLoop line = Lines.of(1, 5, 9, 9, true);
            line.demand(demand);
            line.step(1);
            doc.same("of five, wanted " + demand, line.shortSteps(), demand == 6 ? 1 : 0);
        }
        KanbanLoop line = Lines.of(1, 5, 9, 9, true);
        line.demand(6);
        line.step(1);
        line.demand(0);
        line.step(2);
        doc.same("short as long as there is a backlog", line.shortSteps(), 3);
        line.stage(1, 1, 9, 9, true);
        line.step(1);
        doc.same("no longer", line.shortSteps(), 3);
    }

    private void workOnAContainer() {
        for (int time : new int[] {1, 2, 9}) {
            KanbanLoop line = Lines.of(1, 3, time, 1, false);
            line.step(1);
            for (int left = time; left >= 1; left--) {
                doc.same("steps left, of " + time, line.left(0), left);
                doc.same("not in the market, of " + time, line.market(0), 0);
                line.step(1);
            }
            doc.same("none left, of " + time, line.left(0), 0);
            doc.same("in the market, of " + time, line.market(0), 3);
            doc.same("with its card, of " + time, line.attached(0), 1);
        }
        stoppedWork();
        behindAllOthers();
    }

    private void stoppedWork() {
        KanbanLoop line = Lines.of(1, 3, 1, 1, false);
        line.step(1);
        line.stop(0);
        line.step(2);
        doc.same("stopped: one step is left", line.left(0), 1);
        doc.same("stopped: not in the market", line.market(0), 0);
        line.stop(0);
        line.step(1);
        doc.same("it goes on", line.market(0), 3);
        KanbanLoop fresh = Lines.of(1, 3, 1, 1, false);
        fresh.stop(0);
        fresh.step(1);
        doc.same("stopped: it begins no run", fresh.left(0), 0);
        doc.same("stopped: its card stays", fresh.board(0), 1);
        KanbanLoop ahead = Lines.of(1, 1, 1, 9, true);
        ahead.stage(1, 1, 1, 1, true);
        ahead.stop(0);
        ahead.stop(1);
        ahead.demand(1);
        doc.same("stopped: customers take", ahead.step(1), 1);
        doc.same("stopped: containers are fetched", ahead.inbox(1), 1);
    }

    /** The two begun containers show by their units: behind 2 of 3 comes one of 3. */
    private void behindAllOthers() {
        KanbanLoop line = Lines.of(2, 3, 1, 1, true);
        line.rule(true);
        line.demand(1);
        line.step(1);
        line.demand(0);
        line.step(1);
        doc.same("the begun one is first", line.firstUnits(0), 2);
        doc.same("the new one is behind", line.market(0), 8);
        line.demand(5);
        line.step(1);
        doc.same("behind all others", line.firstUnits(0), 3);
        doc.same("the only one left", line.attached(0), 1);
    }

    private void runsBegin() {
        for (int cards = 1; cards <= 5; cards++) {
            KanbanLoop line = Lines.of(cards, 1, 5, 3, false);
            line.step(1);
            doc.same("to begin at the mark 3, with cards " + cards, line.run(0), cards < 3 ? 0 : cards - 1);
            doc.same("on the board at the mark 3, with cards " + cards, line.board(0), cards < 3 ? cards : cards - 1);
        }
        noRunWhileAnotherIsOn();
        noRunWhileItWorks();
        KanbanLoop atOnce = Lines.of(1, 1, 1, 1, true);
        atOnce.demand(1);
        atOnce.step(1);
        doc.same("a card that customers free begins in the same step", atOnce.left(0), 1);
        atOnce.demand(0);
        atOnce.issue(0);
        atOnce.step(1);
        doc.same("in the step in which a container ends, the next run begins", atOnce.left(0), 1);
        doc.same("and the first is in the market", atOnce.market(0), 1);
    }

    private void noRunWhileAnotherIsOn() {
        KanbanLoop line = Lines.of(2, 1, 1, 2, false);
        line.step(1);
        doc.same("a run of two, one begun", line.run(0), 1);
        line.issue(0);
        line.issue(0);
        line.step(1);
        doc.same("it ends with its second one", line.run(0), 0);
        doc.same("two cards came since", line.board(0), 2);
        line.step(1);
        doc.same("then they are a run", line.run(0), 1);
    }

    private void noRunWhileItWorks() {
        KanbanLoop line = Lines.of(1, 1, 3, 1, false);
        line.step(1);
        line.issue(0);
        line.step(2);
        doc.same("one step is left", line.left(0), 1);
        doc.same("no run", line.run(0), 0);
        line.issue(0);
        line.step(1);
        doc.same("a run of both cards", line.run(0), 1);
        doc.same("one of them begun", line.left(0), 3);
    }

    private void containersAreBegun() {
        for (int units = 3; units <= 5; units++) {
            KanbanLoop line = Lines.inboxOf(units, 1, 4, 9);
            line.mark(1, 8);
            line.step(1);
            boolean enough = units >= 4;
            doc.same("units left, of " + units, line.inbox(1), enough ? units - 4 : units);
            doc.same("cards on the board, of " + units, line.board(1), enough ? 7 : 8);
            doc.same("steps to do, of " + units, line.left(1), enough ? 9 : 0);
            doc.same("containers to begin, of " + units, line.run(1), enough ? 7 : 8);
        }
        KanbanLoop first = Lines.of(2, 10, 1, 2, false);
        first.step(1);
        doc.same("the first stage begins always", first.left(0), 1);
        doc.same("one container less", first.run(0), 1);
        first.step(1);
        doc.same("over with the last one", first.run(0), 0);
        doc.same("which is in work", first.left(0), 1);
        first.mark(0, 1);
        first.step(1);
        doc.same("no third one", first.left(0), 0);
        tooLateForThisStep();
    }

    private void tooLateForThisStep() {
        KanbanLoop line = Lines.of(1, 1, 1, 9, true);
        line.stage(1, 1, 1, 1, false);
        line.step(1);
        doc.same("what comes into the inbox comes after the work", line.left(1), 0);
        doc.same("it is there", line.inbox(1), 1);
        line.step(1);
        doc.same("for the next step", line.left(1), 1);
    }

    private void starving() {
        for (int units = 3; units <= 5; units++) {
            KanbanLoop line = Lines.inboxOf(units, 1, 4, 9);
            line.mark(1, 8);
            line.step(1);
            doc.same("a container of 4 of " + units, line.starved(1), units == 3 ? 1 : 0);
        }
        KanbanLoop empty = Lines.plain(2);
        empty.mark(1, 1);
        empty.step(3);
        doc.same("an empty inbox", empty.starved(1), 3);
        doc.same("the first stage never", empty.starved(0), 0);
        KanbanLoop noRun = Lines.plain(2);
        noRun.step(3);
        doc.same("no run is on", noRun.starved(1), 0);
        KanbanLoop stopped = Lines.plain(2);
        stopped.mark(1, 1);
        stopped.stop(1);
        stopped.step(3);
        doc.same("stopped", stopped.starved(1), 0);
        KanbanLoop works = Lines.inboxOf(4, 1, 4, 3);
        works.mark(1, 8);
        works.step(3);
        doc.same("the run is on, but it works on one", works.starved(1), 0);
        works.step(1);
        doc.same("in the step in which that one ends", works.starved(1), 1);
        doc.same("it ended", works.market(1), 4);
    }

    /** The later container sets out a step after the earlier one, of 2 units, and has 3. */
    private void arrivals() {
        int[][] waysAndSteps = {{2, 1}, {3, 2}, {5, 4}};
        for (int[] ways : waysAndSteps) {
            KanbanLoop line = twoOnTheWay(ways[0], ways[1]);
            for (int i = 1; i < ways[1]; i++) {
                line.step(1);
            }
            doc.same("one step is left", line.travelling(1), 2);
            line.step(1);
            doc.same("both are there", line.inbox(1), 5);
            line.mark(1, 1);
            line.step(1);
            doc.same("the one that set out first came first", line.waiting(1), 1);
        }
        KanbanLoop overtaken = twoOnTheWay(5, 1);
        overtaken.step(1);
        doc.same("the later one is there", overtaken.inbox(1), 3);
        doc.same("the earlier one travels", overtaken.travelling(1), 1);
        overtaken.step(2);
        doc.same("it travels still", overtaken.inbox(1), 3);
        overtaken.step(1);
        doc.same("it is there", overtaken.inbox(1), 5);
        KanbanLoop ahead = twoOnTheWay(2, 5);
        ahead.step(1);
        doc.same("the earlier one is there", ahead.inbox(1), 2);
        doc.same("the later one travels", ahead.travelling(1), 1);
        ahead.step(3);
        doc.same("it travels still", ahead.inbox(1), 2);
        ahead.step(1);
        doc.same("it is there with its own units", ahead.inbox(1), 5);
    }

    /** The stage 1 makes containers of 2, so that the one of 2 would be emptied by the first of them. */
    private static KanbanLoop twoOnTheWay(int earlier, int later) {
        KanbanLoop line = Lines.of(2, 3, 1, 9, true);
        line.demand(1);
        line.step(1);
        line.demand(0);
        line.stage(1, 2, 9, 9, false);
        line.way(1, earlier);
        line.step(1);
        line.way(1, later);
        line.issueConveyance(1);
        line.step(1);
        return line;
    }

    private void settingOut() {
        for (int containers = 0; containers <= 3; containers++) {
            for (int cards = 1; cards <= 3; cards++) {
                KanbanLoop line = Lines.of(3, 2, 1, 9, containers == 3);
                stockUp(line, containers);
                line.stage(1, 10, 1, 9, false);
                for (int i = 1; i < cards; i++) {
                    line.issueConveyance(1);
                }
                line.step(1);
                int fetched = Math.min(containers, cards);
                doc.same("fetched of " + containers + " by " + cards, line.inbox(1), 2 * fetched);
                doc.same("left of " + containers + " by " + cards, line.market(0), 2 * (containers - fetched));
                doc.same("waiting of " + containers + " by " + cards, line.waiting(1), cards - fetched);
                doc.same("production cards of " + containers + " by " + cards, line.board(0), 3 - containers + fetched);
            }
        }
        setsOutBegun();
        setsOutBehindArrivals();
        setsOutInOrder();
    }

    /** Makes 1 or 2 containers in a market that is empty; the stage begins no other. */
    private static void stockUp(KanbanLoop line, int containers) {
        if (containers == 1 || containers == 2) {
            line.retire(0);
            if (containers == 1) {
                line.retire(0);
            }
            line.mark(0, containers);
            line.step(containers + 1);
            line.mark(0, 9);
            for (int i = containers; i < 3; i++) {
                line.issue(0);
            }
        }
    }

    private void setsOutBegun() {
        for (boolean first : new boolean[] {true, false}) {
            for (int way = 0; way <= 1; way++) {
                KanbanLoop line = Lines.of(1, 3, 1, 9, true);
                line.rule(first);
                line.demand(1);
                line.step(1);
                doc.same("attached to the begun one, FIRST " + first, line.attached(0), first ? 0 : 1);
                line.stage(1, 10, 1, 9, false);
                line.way(1, way);
                line.step(1);
                doc.same("its card on the board, FIRST " + first, line.board(0), 1);
                doc.same("none attached, FIRST " + first, line.attached(0), 0);
                doc.same("travels, by a way of " + way, line.travelling(1), way);
                doc.same("there, by a way of " + way, line.inbox(1), way == 0 ? 2 : 0);
                line.step(1);
                doc.same("there a step later", line.inbox(1), 2);
                doc.same("with its conveyance card", line.waiting(1), 0);
            }
        }
    }

    /** One of 2 units arrives in the step in which one of 3 sets out by a way of 0: the one of 2 is ahead. */
    private void setsOutBehindArrivals() {
        KanbanLoop line = Lines.of(2, 3, 1, 9, true);
        line.demand(1);
        line.step(1);
        line.demand(0);
        line.stage(1, 2, 9, 9, false);
        line.way(1, 1);
        line.step(1);
        line.way(1, 0);
        line.issueConveyance(1);
        line.step(1);
        doc.same("both are there", line.inbox(1), 5);
        line.mark(1, 1);
        line.step(1);
        doc.same("the one that travelled came first", line.waiting(1), 1);
    }

    private void setsOutInOrder() {
        KanbanLoop line = Lines.of(3, 3, 1, 9, true);
        line.demand(2);
        line.step(1);
        line.demand(0);
        line.stage(1, 10, 1, 9, false);
        line.step(1);
        doc.same("the one that came first", line.inbox(1), 1);
        doc.same("the others stay", line.market(0), 6);
        line.issueConveyance(1);
        line.step(1);
        doc.same("the next one", line.inbox(1), 4);
    }

    private void manyAtOnceOrOneByOne() {
        for (int stages = 1; stages <= Sentences.MOST_STAGES; stages++) {
            KanbanLoop atOnce = Lines.busy(stages);
            KanbanLoop oneByOne = Lines.busy(stages);
            int taken = 0;
            for (int i = 0; i < 50; i++) {
                taken += oneByOne.step(1);
            }
            doc.same("taken", atOnce.step(50), taken);
            doc.isTrue("the same comes of it", Telling.future(atOnce).equals(Telling.future(oneByOne)));
        }
    }

    private void stepsOfACall() {
        doc.acceptsBothEnds(() -> Lines.busy(3), 1, 50, KanbanLoop::step);
        doc.refusesBeyond(() -> Lines.busy(3), 1, 50, KanbanLoop::step);
        for (int steps : new int[] {1, 2, 49, 50}) {
            KanbanLoop line = Lines.plain(1);
            line.step(steps);
            doc.same("steps passed", line.time(), steps);
        }
    }

    private void takenInThem() {
        KanbanLoop line = Lines.of(9, 10, 9, 9, true);
        doc.same("none wanted", line.step(50), 0);
        line.demand(20);
        doc.same("one step", line.step(1), 20);
        doc.same("only those of the call", line.step(2), 40);
        doc.same("no more than there are", line.step(3), 30);
        doc.same("none left", line.step(1), 0);
        line.demand(0);
        line.stage(9, 10, 9, 9, true);
        doc.same("the backlog too", line.step(1), 50);
    }

    private void stepsBeyondTheRange() {
        for (int stages = 0; stages <= Sentences.MOST_STAGES; stages++) {
            int many = stages;
            doc.refusesBeyond(() -> Lines.busy(many), 1, 50, KanbanLoop::step);
        }
    }

    private void noStages() {
        for (int steps : new int[] {1, 50}) {
            doc.refuses("steps without stages", () -> Lines.busy(0), Sentences.BAD_STATE, line -> line.step(steps));
            doc.accepts("steps with one stage", () -> Lines.busy(1).step(steps));
        }
    }

    private void time() {
        KanbanLoop line = new KanbanLoop();
        doc.same("of a new object", line.time(), 0);
        Checks.thrownBy(() -> line.step(1));
        doc.same("after a refused step", line.time(), 0);
        line.stage(1, 1, 1, 1, true);
        doc.same("before the first step", line.time(), 0);
        line.step(1);
        doc.same("after it", line.time(), 1);
        line.step(50);
        doc.same("after fifty more", line.time(), 51);
        line.stop(0);
        line.step(1);
        doc.same("with all stages stopped", line.time(), 52);
    }
}
