import java.util.function.IntConsumer;

/** Each promise by itself: ordinary inputs, the edges that the document names, and wrong inputs. */
public final class PromiseTest {
    private static final Class<IndexOutOfBoundsException> NO_STAGE = IndexOutOfBoundsException.class;
    private static final Class<IllegalArgumentException> BAD_ARGUMENT = IllegalArgumentException.class;
    private static final Class<IllegalStateException> BAD_STATE = IllegalStateException.class;
    private static final int[] FAR = {Integer.MIN_VALUE, -1, 1000, Integer.MAX_VALUE};

    private final Checks checks = new Checks();

    public static void main(String[] args) {
        PromiseTest test = new PromiseTest();
        test.theLine();
        test.cards();
        test.steps();
        test.whatIs();
        test.whatWas();
        test.checks.close();
    }

    private void theLine() {
        newObject();
        stageNumbersAndRanges();
        stageFullOrNot();
        stageTakesOverSupply();
        wayIsForLaterContainers();
        wayKeepsTheOrderOfSettingOut();
        wayCarriesEachContainersUnits();
        markLetsRunGoOn();
        ruleTellsWhenCardsComeOff();
        ruleChangesInsideAContainer();
        ruleMakesRoomForOneMore();
        ruleHoldsInInboxes();
        demandAnswersAndRanges();
        stopHoldsAStage();
        stopKeepsTheRun();
    }

    private void cards() {
        issueOntoBoard();
        retireFromBoard();
        retireCutsRun();
        issueConveyanceWaits();
        retireConveyanceThatWaits();
        neededRoundsUp();
    }

    private void steps() {
        stepRanges();
        stepServesCustomersFirst();
        stepBeginsRuns();
        stepBeginsNoRunInWork();
        stepStarves();
        stepConveysAfterWork();
        stepConveysAllItCan();
        stepConveysBegunContainers();
        stepFreesTheCardOfABegunContainer();
        timeCountsSteps();
    }

    private void whatIs() {
        questionsRefuseNoStage();
        stagesAreCounted();
        boardAndAttached();
        leftAndRun();
        marketInboxAndFirstUnits();
        waitingAndTravelling();
    }

    private void whatWas() {
        takenBacklogAndShortSteps();
        starvedIsPerStage();
        stockBothWays();
    }

    // ---- the line

    private void newObject() {
        KanbanLoop line = new KanbanLoop();
        checks.same("1 all", Telling.all(line), "time 0 taken 0 backlog 0 short 0 stock 0 flow 0");
        checks.same("1 stages", line.stages(), 0);
        checks.same("1 demand", line.demand(4), 0);
        checks.isTrue("1 rule is LAST", !line.rule(true));
        KanbanLoop other = new KanbanLoop();
        other.stage(1, 1, 1, 1, true);
        checks.same("1 another object's stages", line.stages(), 0);
    }

    private void stageNumbersAndRanges() {
        KanbanLoop line = new KanbanLoop();
        int[] most = {9, 10, 9, 9};
        for (int at = 0; at < most.length; at++) {
            for (int bad : new int[] {Integer.MIN_VALUE, -1, 0, most[at] + 1, Integer.MAX_VALUE}) {
                int[] a = {1, 1, 1, 1};
                a[at] = bad;
                checks.refuses("2 stage with " + bad + " at " + at, line, BAD_ARGUMENT,
                        () -> line.stage(a[0], a[1], a[2], a[3], true));
            }
        }
        checks.same("2 the first", line.stage(9, 10, 9, 9, false), 0);
        checks.same("2 the second", line.stage(1, 1, 1, 1, true), 1);
        for (int i = 2; i < 6; i++) {
            checks.same("2 the next", line.stage(2, 3, 4, 5, i == 3), i);
        }
        checks.refuses("2 the seventh", line, BAD_STATE, () -> line.stage(1, 1, 1, 1, true));
        checks.refuses("2 both", line, BAD_ARGUMENT, () -> line.stage(1, 1, 1, 10, true));
        checks.same("2 stages", line.stages(), 6);
    }

    private void stageFullOrNot() {
        KanbanLoop line = new KanbanLoop();
        line.stage(4, 7, 2, 3, true);
        checks.same("2 full market", line.market(0), 28);
        checks.same("2 full attached", line.attached(0), 4);
        checks.same("2 full board", line.board(0), 0);
        checks.same("2 full first", line.firstUnits(0), 7);
        line.stage(3, 5, 2, 2, false);
        checks.same("2 not full market", line.market(1), 0);
        checks.same("2 not full attached", line.attached(1), 0);
        checks.same("2 not full board", line.board(1), 3);
        checks.same("2 first stage's conveyance", line.waiting(0), 0);
        checks.same("2 later stage's conveyance", line.waiting(1), 1);
        checks.same("2 way", line.way(1, 3), 0);
        checks.same("2 one conveyance card in all", line.issueConveyance(1), 2);
        checks.same("2 mark", line.mark(1, 1), 2);
    }

    private void stageTakesOverSupply() {
        KanbanLoop line = new KanbanLoop();
        line.stage(2, 3, 1, 1, true);
        line.demand(2);
        checks.same("2 from the only market", line.step(1), 2);
        line.stage(1, 5, 1, 1, true);
        checks.same("2 from the new market", line.step(1), 2);
        checks.same("2 the new market", line.market(1), 3);
        checks.same("2 its inbox took the begun container", line.inbox(1), 1);
        checks.same("2 the old market", line.market(0), 3);
    }

    private void wayIsForLaterContainers() {
        KanbanLoop line = new KanbanLoop();
        line.stage(2, 2, 1, 1, false);
        line.stage(1, 1, 1, 9, false);
        line.issueConveyance(1);
        checks.same("3 before", line.way(1, 3), 0);
        line.step(2);
        checks.same("3 set out", line.travelling(1), 1);
        checks.same("3 changed", line.way(1, 1), 3);
        line.step(1);
        checks.same("3 both travel", line.travelling(1), 2);
        line.step(1);
        checks.same("3 the later one is there", line.inbox(1), 2);
        checks.same("3 the earlier one travels", line.travelling(1), 1);
        line.step(1);
        checks.same("3 both are there", line.inbox(1), 4);
        wayRefuses(line);
        checks.same("3 longest", line.way(1, 5), 1);
        checks.same("3 shortest", line.way(1, 0), 5);
        checks.same("3 none", line.way(1, 1), 0);
    }

    private void wayRefuses(KanbanLoop line) {
        noStage("3 way", line, stage -> line.way(stage, 1));
        noStage("3 way and steps", line, stage -> line.way(stage, 9));
        checks.refuses("3 way(0, 1)", line, NO_STAGE, () -> line.way(0, 1));
        checks.refuses("3 way(0, 6)", line, NO_STAGE, () -> line.way(0, 6));
        checks.refuses("3 way(1, -1)", line, BAD_ARGUMENT, () -> line.way(1, -1));
        checks.refuses("3 way(1, 6)", line, BAD_ARGUMENT, () -> line.way(1, 6));
    }

    /** Two containers of 2 and 3 units arrive in one step: which is ahead shows by the card of the first 2. */
    private void wayKeepsTheOrderOfSettingOut() {
        KanbanLoop line = new KanbanLoop();
        line.stage(2, 3, 1, 9, true);
        line.demand(1);
        line.step(1);
        line.demand(0);
        line.stage(1, 2, 1, 1, false);
        line.way(1, 2);
        line.step(1);
        line.way(1, 1);
        line.issueConveyance(1);
        line.step(1);
        checks.same("3 both on the way", line.travelling(1), 2);
        line.step(1);
        checks.same("3 both arrived", line.inbox(1), 5);
        line.step(1);
        checks.same("3 two units gone", line.inbox(1), 3);
        checks.same("3 they were the earlier one's", line.waiting(1), 1);
    }

    /** The later container has more units than the earlier one, which comes a step ahead of it. */
    private void wayCarriesEachContainersUnits() {
        KanbanLoop line = new KanbanLoop();
        line.stage(2, 3, 1, 9, true);
        line.demand(1);
        line.step(1);
        line.demand(0);
        line.stage(1, 9, 1, 9, false);
        line.way(1, 2);
        line.step(1);
        line.issueConveyance(1);
        line.step(2);
        checks.same("3 the earlier one", line.inbox(1), 2);
        checks.same("3 travels on", line.travelling(1), 1);
        bothStocks(line, 5);
        line.step(1);
        checks.same("3 both", line.inbox(1), 5);
    }

    private void markLetsRunGoOn() {
        KanbanLoop line = new KanbanLoop();
        line.stage(3, 2, 1, 3, false);
        line.step(1);
        checks.same("4 run of three", line.run(0), 2);
        checks.same("4 before", line.mark(0, 9), 3);
        line.step(3);
        checks.same("4 all three are made", line.market(0), 6);
        line.demand(6);
        line.step(3);
        checks.same("4 no run below the mark", line.board(0), 3);
        line.mark(0, 3);
        line.step(1);
        checks.same("4 a run at the mark", line.run(0), 2);
        noStage("4 mark", line, stage -> line.mark(stage, 1));
        noStage("4 mark and mark", line, stage -> line.mark(stage, 0));
        checks.refuses("4 mark(0, 0)", line, BAD_ARGUMENT, () -> line.mark(0, 0));
        checks.refuses("4 mark(0, 10)", line, BAD_ARGUMENT, () -> line.mark(0, 10));
        checks.same("4 lowest", line.mark(0, 1), 3);
        checks.same("4 highest", line.mark(0, 9), 1);
    }

    private void ruleTellsWhenCardsComeOff() {
        KanbanLoop line = new KanbanLoop();
        line.stage(2, 3, 1, 9, true);
        line.demand(1);
        line.step(2);
        checks.same("5 LAST: begun keeps its card", line.attached(0), 2);
        line.step(1);
        checks.same("5 LAST: empty gives it", line.board(0), 1);
        checks.isTrue("5 was LAST", !line.rule(true));
        line.step(1);
        checks.same("5 FIRST: begun gives it", line.board(0), 2);
        checks.same("5 FIRST: units are left", line.market(0), 2);
        checks.isTrue("5 was FIRST", line.rule(true));
        checks.isTrue("5 is FIRST still", line.rule(false));
        line.step(2);
        checks.same("5 no card twice", line.board(0), 2);
        checks.isTrue("5 is LAST", !line.rule(false));
    }

    private void ruleChangesInsideAContainer() {
        KanbanLoop line = new KanbanLoop();
        line.stage(1, 4, 1, 9, true);
        line.demand(1);
        line.step(2);
        line.rule(true);
        checks.same("5 the rule alone moves no card", line.attached(0), 1);
        line.step(1);
        checks.same("5 the next unit does", line.attached(0), 0);
        checks.same("5 onto the board", line.board(0), 1);
        checks.same("5 a unit is left", line.market(0), 1);
    }

    /** The most that a market can hold: one begun container without its card, and nine with theirs. */
    private void ruleMakesRoomForOneMore() {
        KanbanLoop line = new KanbanLoop();
        line.stage(9, 2, 1, 1, true);
        line.rule(true);
        line.demand(1);
        line.step(1);
        line.demand(0);
        line.step(1);
        checks.same("5 all cards are attached", line.attached(0), 9);
        checks.same("5 and one unit more", line.market(0), 19);
        line.demand(19);
        checks.same("5 all of them can be taken", line.step(1), 19);
        bothStocks(line, 2);
    }

    private void ruleHoldsInInboxes() {
        KanbanLoop line = new KanbanLoop();
        line.stage(1, 4, 1, 9, true);
        line.stage(3, 1, 1, 1, false);
        line.step(1);
        checks.same("5 it came", line.inbox(1), 4);
        line.step(1);
        checks.same("5 LAST: the card stays", line.waiting(1), 0);
        line.rule(true);
        line.step(1);
        checks.same("5 FIRST: the card waits", line.waiting(1), 1);
        checks.same("5 two units are left", line.inbox(1), 2);
    }

    private void demandAnswersAndRanges() {
        KanbanLoop line = new KanbanLoop();
        checks.same("6 first", line.demand(20), 0);
        checks.same("6 most", line.demand(0), 20);
        checks.same("6 least", line.demand(3), 0);
        checks.refuses("6 demand(-1)", line, BAD_ARGUMENT, () -> line.demand(-1));
        checks.refuses("6 demand(21)", line, BAD_ARGUMENT, () -> line.demand(21));
        checks.refuses("6 far", line, BAD_ARGUMENT, () -> line.demand(Integer.MIN_VALUE));
        checks.same("6 as it was", line.demand(2), 3);
        line.stage(1, 9, 1, 9, true);
        checks.same("6 in a step", line.step(1), 2);
        line.demand(0);
        checks.same("6 none wanted", line.step(1), 0);
    }

    private void stopHoldsAStage() {
        KanbanLoop line = new KanbanLoop();
        line.stage(2, 3, 2, 1, false);
        line.stage(1, 3, 1, 1, false);
        line.step(1);
        checks.isTrue("7 stopped", line.stop(0));
        line.step(4);
        checks.same("7 what it works on stays", line.left(0), 2);
        checks.same("7 the other starves on", line.starved(1), 5);
        checks.isTrue("7 the other too", line.stop(1));
        line.step(2);
        checks.same("7 stopped stages do not starve", line.starved(1), 5);
        checks.isTrue("7 goes on", !line.stop(0));
        line.step(2);
        checks.same("7 it was made and came", line.inbox(1), 3);
        checks.same("7 the other begins nothing", line.left(1), 0);
        checks.same("7 time passes", line.time(), 9);
        noStage("7 stop", line, line::stop);
        line.demand(3);
        line.stop(1);
        line.step(1);
        line.stop(1);
        line.step(1);
        checks.same("7 stopped while it works", line.market(1), 0);
        line.stop(1);
        line.step(1);
        checks.same("7 then made", line.market(1), 3);
        line.stop(1);
        checks.same("7 customers take all the same", line.step(1), 3);
    }

    private void stopKeepsTheRun() {
        KanbanLoop line = new KanbanLoop();
        line.stage(3, 1, 1, 3, false);
        line.step(1);
        line.stop(0);
        checks.same("7 the run stays", line.run(0), 2);
        line.step(2);
        checks.same("7 and begins nothing", line.board(0), 2);
        line.stop(0);
        line.step(3);
        checks.same("7 then it goes on", line.market(0), 3);
    }

    // ---- cards

    private void issueOntoBoard() {
        KanbanLoop line = new KanbanLoop();
        line.stage(7, 1, 1, 9, true);
        checks.same("8 eight", line.issue(0), 8);
        checks.same("8 on the board", line.board(0), 1);
        checks.same("8 not attached", line.attached(0), 7);
        checks.same("8 nine", line.issue(0), 9);
        checks.refuses("8 ten", line, BAD_STATE, () -> line.issue(0));
        noStage("8 issue", line, line::issue);
        line.stage(2, 1, 9, 2, false);
        line.step(1);
        checks.same("8 run", line.run(1), 2);
        line.issue(1);
        checks.same("8 the run stays", line.run(1), 2);
        checks.same("8 each stage its own", line.issue(1), 4);
    }

    private void retireFromBoard() {
        KanbanLoop line = new KanbanLoop();
        line.stage(3, 1, 9, 9, false);
        checks.same("9 two", line.retire(0), 2);
        checks.same("9 board", line.board(0), 2);
        checks.same("9 one", line.retire(0), 1);
        checks.refuses("9 the last one", line, BAD_STATE, () -> line.retire(0));
        noStage("9 retire", line, line::retire);
        line.stage(3, 1, 1, 9, true);
        checks.refuses("9 none on the board", line, BAD_STATE, () -> line.retire(1));
        line.issue(1);
        checks.same("9 the issued one", line.retire(1), 3);
        checks.same("9 attached stay", line.attached(1), 3);
        checks.same("9 issue after", line.issue(0), 2);
    }

    private void retireCutsRun() {
        KanbanLoop line = new KanbanLoop();
        line.stage(4, 1, 3, 1, false);
        line.step(1);
        checks.same("9 run of three left", line.run(0), 3);
        line.issue(0);
        line.retire(0);
        checks.same("9 cards enough", line.run(0), 3);
        line.retire(0);
        checks.same("9 cut", line.run(0), 2);
        line.retire(0);
        line.retire(0);
        checks.same("9 over", line.run(0), 0);
        checks.same("9 the one in work stays", line.left(0), 3);
        checks.refuses("9 one in all", line, BAD_STATE, () -> line.retire(0));
        line.issue(0);
        line.issue(0);
        line.mark(0, 9);
        line.step(5);
        checks.same("9 no run goes on", line.market(0), 1);
    }

    private void issueConveyanceWaits() {
        KanbanLoop line = new KanbanLoop();
        line.stage(1, 1, 1, 9, false);
        line.stage(1, 1, 1, 1, false);
        for (int i = 2; i <= 5; i++) {
            checks.same("10 issued", line.issueConveyance(1), i);
            checks.same("10 waits", line.waiting(1), i);
        }
        checks.refuses("10 six", line, BAD_STATE, () -> line.issueConveyance(1));
        checks.refuses("10 the first stage", line, NO_STAGE, () -> line.issueConveyance(0));
        noStage("10 issueConveyance", line, line::issueConveyance);
        checks.same("10 no production card", line.issue(1), 2);
        issueConveyanceCountsAll();
    }

    private void issueConveyanceCountsAll() {
        KanbanLoop line = new KanbanLoop();
        line.stage(4, 1, 1, 9, true);
        line.stage(1, 2, 1, 9, false);
        line.issueConveyance(1);
        line.step(1);
        line.way(1, 5);
        checks.same("10 with those in the inbox", line.issueConveyance(1), 3);
        line.step(1);
        checks.same("10 with those that travel", line.issueConveyance(1), 4);
        checks.same("10 one waits", line.waiting(1), 1);
        line.issueConveyance(1);
        checks.refuses("10 six in all", line, BAD_STATE, () -> line.issueConveyance(1));
    }

    private void retireConveyanceThatWaits() {
        KanbanLoop line = new KanbanLoop();
        line.stage(2, 1, 1, 9, true);
        line.stage(1, 2, 1, 9, false);
        checks.refuses("11 the last one", line, BAD_STATE, () -> line.retireConveyance(1));
        line.issueConveyance(1);
        line.issueConveyance(1);
        checks.same("11 two", line.retireConveyance(1), 2);
        checks.same("11 fewer wait", line.waiting(1), 2);
        checks.same("11 one", line.retireConveyance(1), 1);
        line.issueConveyance(1);
        line.way(1, 1);
        line.step(1);
        checks.refuses("11 none waits but all travel", line, BAD_STATE, () -> line.retireConveyance(1));
        line.step(1);
        checks.refuses("11 none waits but all are there", line, BAD_STATE, () -> line.retireConveyance(1));
        line.issueConveyance(1);
        checks.same("11 the issued one", line.retireConveyance(1), 2);
        checks.refuses("11 the first stage", line, NO_STAGE, () -> line.retireConveyance(0));
        noStage("11 retireConveyance", line, line::retireConveyance);
    }

    private void neededRoundsUp() {
        KanbanLoop line = new KanbanLoop();
        line.stage(1, 4, 3, 2, false);
        checks.same("12 at least 1", line.needed(0, 0), 1);
        line.demand(2);
        checks.same("12 even", line.needed(0, 0), 3);
        checks.same("12 a little more", line.needed(0, 1), 4);
        checks.same("12 the most safety", line.needed(0, 100), 6);
        line.stage(1, 10, 9, 9, false);
        line.way(1, 2);
        checks.same("12 the way behind", line.needed(0, 0), 4);
        checks.same("12 its own way does not count", line.needed(1, 0), 17);
        line.mark(0, 9);
        checks.same("12 the mark of now", line.needed(0, 0), 15);
        line.demand(20);
        checks.same("12 up to many", line.needed(1, 100), 324);
        neededRoundsUpTheLeast();
        noStage("12 needed", line, stage -> line.needed(stage, 0));
        noStage("12 needed and safety", line, stage -> line.needed(stage, -1));
        checks.refuses("12 needed(0, -1)", line, BAD_ARGUMENT, () -> line.needed(0, -1));
        checks.refuses("12 needed(0, 101)", line, BAD_ARGUMENT, () -> line.needed(0, 101));
    }

    private void neededRoundsUpTheLeast() {
        KanbanLoop line = new KanbanLoop();
        line.stage(1, 1, 1, 1, false);
        line.demand(1);
        checks.same("12 no more than a hundred", line.needed(0, 0), 1);
        checks.same("12 a hundred and one", line.needed(0, 1), 2);
        checks.same("12 two hundred", line.needed(0, 100), 2);
    }

    // ---- steps

    private void stepRanges() {
        KanbanLoop line = new KanbanLoop();
        checks.refuses("13 no stages", line, BAD_STATE, () -> line.step(1));
        checks.refuses("13 both", line, BAD_ARGUMENT, () -> line.step(0));
        line.stage(1, 10, 1, 1, true);
        checks.refuses("13 step(0)", line, BAD_ARGUMENT, () -> line.step(0));
        checks.refuses("13 step(-1)", line, BAD_ARGUMENT, () -> line.step(-1));
        checks.refuses("13 step(51)", line, BAD_ARGUMENT, () -> line.step(51));
        checks.refuses("13 far", line, BAD_ARGUMENT, () -> line.step(Integer.MAX_VALUE));
        line.demand(1);
        checks.same("13 one", line.step(1), 1);
        checks.same("13 only those of this call", line.step(2), 2);
        checks.same("13 fifty", line.step(50), 50);
    }

    private void stepServesCustomersFirst() {
        KanbanLoop line = new KanbanLoop();
        line.stage(1, 2, 1, 1, true);
        line.demand(2);
        checks.same("13 taken", line.step(1), 2);
        checks.same("13 its card begins in the same step", line.left(0), 1);
        checks.same("13 what ends in a step comes too late for it", line.step(1), 0);
        checks.same("13 the backlog", line.backlog(), 2);
        checks.same("13 it is in the market", line.market(0), 2);
        line.demand(3);
        checks.same("13 as many as there are", line.step(1), 2);
        checks.same("13 demand and what they did not get", line.backlog(), 3);
    }

    private void stepBeginsRuns() {
        KanbanLoop line = new KanbanLoop();
        line.stage(3, 2, 2, 2, false);
        line.step(1);
        checks.same("13 a run of all on the board", line.run(0), 2);
        checks.same("13 one card goes", line.board(0), 2);
        checks.same("13 as long as its time", line.left(0), 2);
        line.step(1);
        checks.same("13 one step less", line.left(0), 1);
        line.step(1);
        checks.same("13 made, and the next is begun at once", line.left(0), 2);
        checks.same("13 in the market", line.market(0), 2);
        line.demand(2);
        line.step(1);
        line.demand(0);
        line.step(3);
        checks.same("13 the run is over, one card is below the mark", line.run(0), 0);
        checks.same("13 it works on none", line.left(0), 0);
        checks.same("13 the card stays", line.board(0), 1);
        checks.same("13 behind all others", line.firstUnits(0), 2);
    }

    /** A stage starves where a run is on and it works on nothing, not while it works. */
    private void stepStarves() {
        KanbanLoop line = new KanbanLoop();
        line.stage(1, 2, 1, 9, true);
        line.stage(2, 2, 3, 2, false);
        line.step(1);
        checks.same("13 the run begins without units", line.run(1), 2);
        checks.same("13 and starves", line.starved(1), 1);
        line.step(1);
        checks.same("13 begun", line.run(1), 1);
        line.step(2);
        checks.same("13 not starved while it works", line.starved(1), 1);
        line.step(1);
        checks.same("13 made", line.market(1), 2);
        checks.same("13 starved again", line.starved(1), 2);
        line.step(10);
        checks.same("13 each step", line.starved(1), 12);
        checks.same("13 the run stays", line.run(1), 1);
    }

    /** A run begins with what is on the board as it begins, not while the one before is in work. */
    private void stepBeginsNoRunInWork() {
        KanbanLoop line = new KanbanLoop();
        line.stage(1, 1, 3, 1, false);
        line.step(1);
        line.issue(0);
        line.step(1);
        checks.same("13 no run while it works", line.run(0), 0);
        line.issue(0);
        line.step(2);
        checks.same("13 a run of both then", line.run(0), 1);
        checks.same("13 one of them is in work", line.left(0), 3);
    }

    private void stepConveysAfterWork() {
        KanbanLoop line = new KanbanLoop();
        line.stage(1, 2, 1, 1, false);
        line.stage(1, 1, 1, 1, false);
        line.way(1, 1);
        line.step(1);
        checks.same("13 nothing is made yet", line.travelling(1), 0);
        line.step(1);
        checks.same("13 made and fetched in one step", line.travelling(1), 1);
        checks.same("13 its production card is free", line.board(0), 1);
        checks.same("13 but only for the next step", line.left(0), 0);
        line.step(1);
        checks.same("13 it is there", line.inbox(1), 2);
        checks.same("13 too late for this step", line.left(1), 0);
        line.step(1);
        checks.same("13 in time for this one", line.left(1), 1);
        line.way(1, 0);
        line.step(2);
        checks.same("13 a way of 0 is no travel", line.travelling(1), 0);
    }

    private void stepConveysAllItCan() {
        KanbanLoop line = new KanbanLoop();
        line.stage(5, 2, 1, 9, true);
        line.stage(1, 1, 1, 9, false);
        line.issueConveyance(1);
        line.issueConveyance(1);
        line.stage(1, 1, 1, 9, true);
        line.step(1);
        checks.same("13 one for each card", line.inbox(1), 6);
        checks.same("13 the rest stays", line.market(0), 4);
        checks.same("13 as many production cards", line.board(0), 3);
        line.issueConveyance(1);
        line.issueConveyance(1);
        line.step(1);
        checks.same("13 all are fetched", line.inbox(1), 10);
        checks.same("13 no card is left", line.waiting(1), 0);
        checks.same("13 the last stage's is another loop", line.waiting(2), 1);
    }

    private void stepFreesTheCardOfABegunContainer() {
        KanbanLoop line = new KanbanLoop();
        line.stage(1, 3, 1, 9, true);
        line.demand(1);
        line.step(1);
        checks.same("13 LAST: begun with its card", line.attached(0), 1);
        line.stage(1, 9, 1, 9, false);
        line.step(1);
        checks.same("13 it came as it was", line.inbox(1), 2);
        checks.same("13 its card is on the board", line.board(0), 1);
        checks.same("13 and attached no more", line.attached(0), 0);
    }

    private void stepConveysBegunContainers() {
        KanbanLoop line = new KanbanLoop();
        line.stage(2, 3, 1, 9, true);
        line.rule(true);
        line.demand(1);
        line.step(1);
        line.demand(0);
        line.stage(2, 2, 1, 1, false);
        line.issueConveyance(1);
        line.step(1);
        checks.same("13 begun and full ones come", line.inbox(1), 5);
        checks.same("13 a card that is off does not come twice", line.board(0), 2);
        line.step(1);
        checks.same("13 with a conveyance card each", line.waiting(1), 1);
        line.step(1);
        checks.same("13 the next has one too", line.inbox(1), 1);
        checks.same("13 both wait", line.waiting(1), 2);
    }

    private void timeCountsSteps() {
        KanbanLoop line = new KanbanLoop();
        line.stage(1, 1, 1, 1, true);
        checks.same("14 first", line.time(), 0);
        line.step(1);
        line.step(50);
        checks.same("14 later", line.time(), 51);
    }

    // ---- what is

    private void questionsRefuseNoStage() {
        KanbanLoop line = new KanbanLoop();
        for (int stages = 0; stages <= 6; stages++) {
            noStage("16 board", line, line::board);
            noStage("17 attached", line, line::attached);
            noStage("18 left", line, line::left);
            noStage("19 run", line, line::run);
            noStage("20 market", line, line::market);
            noStage("21 inbox", line, line::inbox);
            noStage("22 waiting", line, line::waiting);
            noStage("23 travelling", line, line::travelling);
            noStage("24 firstUnits", line, line::firstUnits);
            noStage("28 starved", line, line::starved);
            if (stages < 6) {
                line.stage(1, 1, 1, 1, true);
            }
        }
    }

    private void stagesAreCounted() {
        KanbanLoop line = new KanbanLoop();
        for (int i = 1; i <= 6; i++) {
            line.stage(1, 1, 1, 1, false);
            checks.same("15 stages", line.stages(), i);
        }
    }

    private void boardAndAttached() {
        KanbanLoop line = new KanbanLoop();
        line.stage(3, 2, 2, 1, false);
        checks.same("16 all on the board", line.board(0), 3);
        line.step(1);
        checks.same("16 one is with its container", line.board(0), 2);
        checks.same("17 none attached", line.attached(0), 0);
        line.step(2);
        checks.same("17 one attached", line.attached(0), 1);
        checks.same("16 one on the board", line.board(0), 1);
        line.stage(2, 1, 1, 9, true);
        checks.same("17 the other stage", line.attached(1), 2);
        checks.same("16 the other stage", line.board(1), 0);
    }

    private void leftAndRun() {
        KanbanLoop line = new KanbanLoop();
        line.stage(2, 1, 9, 2, false);
        checks.same("18 works on none", line.left(0), 0);
        checks.same("19 no run", line.run(0), 0);
        line.step(1);
        for (int left = 9; left > 1; left--) {
            checks.same("18 left", line.left(0), left);
            checks.same("19 one to begin", line.run(0), 1);
            line.step(1);
        }
        line.step(1);
        checks.same("18 the next", line.left(0), 9);
        checks.same("19 over with the last", line.run(0), 0);
        line.step(9);
        checks.same("18 done", line.left(0), 0);
        checks.same("20 both", line.market(0), 2);
    }

    private void marketInboxAndFirstUnits() {
        KanbanLoop line = new KanbanLoop();
        line.stage(3, 4, 1, 9, true);
        line.demand(5);
        line.step(1);
        checks.same("20 less five", line.market(0), 7);
        checks.same("24 the second is begun", line.firstUnits(0), 3);
        checks.same("17 the empty one is gone", line.attached(0), 2);
        line.demand(7);
        line.step(1);
        checks.same("20 empty", line.market(0), 0);
        checks.same("24 none", line.firstUnits(0), 0);
        checks.same("21 the stage 0", line.inbox(0), 0);
        line.stage(1, 3, 1, 1, false);
        line.demand(0);
        line.mark(0, 1);
        line.step(2);
        checks.same("21 one came", line.inbox(1), 4);
        line.step(1);
        checks.same("21 less three", line.inbox(1), 1);
    }

    private void waitingAndTravelling() {
        KanbanLoop line = new KanbanLoop();
        line.stage(9, 1, 1, 9, true);
        line.stage(1, 1, 1, 9, false);
        line.way(1, 5);
        for (int i = 0; i < 4; i++) {
            line.issueConveyance(1);
        }
        checks.same("22 five", line.waiting(1), 5);
        checks.same("23 none yet", line.travelling(1), 0);
        line.step(1);
        checks.same("22 none", line.waiting(1), 0);
        checks.same("23 five", line.travelling(1), 5);
        line.step(4);
        checks.same("23 five still", line.travelling(1), 5);
        line.step(1);
        checks.same("23 all there", line.travelling(1), 0);
        checks.same("21 all there", line.inbox(1), 5);
        checks.same("22 the stage 0", line.waiting(0), 0);
        checks.same("23 the stage 0", line.travelling(0), 0);
    }

    // ---- what was

    private void takenBacklogAndShortSteps() {
        KanbanLoop line = new KanbanLoop();
        line.stage(1, 10, 9, 9, true);
        line.demand(4);
        line.step(2);
        checks.same("25 eight", line.taken(), 8);
        checks.same("26 none", line.backlog(), 0);
        checks.same("27 none", line.shortSteps(), 0);
        line.step(3);
        checks.same("25 all ten", line.taken(), 10);
        checks.same("26 ten", line.backlog(), 10);
        checks.same("27 three", line.shortSteps(), 3);
        line.demand(0);
        line.step(1);
        checks.same("26 it stays", line.backlog(), 10);
        checks.same("27 it stays short", line.shortSteps(), 4);
        line.stage(2, 10, 1, 9, true);
        checks.same("26 the next market serves it", line.step(1), 10);
        checks.same("25 twenty", line.taken(), 20);
        checks.same("26 gone", line.backlog(), 0);
        checks.same("27 not short", line.shortSteps(), 4);
        line.demand(11);
        line.step(1);
        checks.same("26 one", line.backlog(), 1);
        checks.same("27 one is enough", line.shortSteps(), 5);
    }

    private void starvedIsPerStage() {
        KanbanLoop line = new KanbanLoop();
        line.stage(1, 1, 1, 1, false);
        line.stage(1, 10, 1, 1, false);
        line.stage(1, 1, 1, 1, false);
        line.stop(0);
        line.step(7);
        line.stop(2);
        line.step(2);
        checks.same("28 never the first", line.starved(0), 0);
        checks.same("28 nine", line.starved(1), 9);
        checks.same("28 seven", line.starved(2), 7);
    }

    private void stockBothWays() {
        KanbanLoop line = new KanbanLoop();
        line.stage(2, 5, 2, 1, true);
        line.stage(2, 3, 2, 1, true);
        bothStocks(line, 16);
        line.way(1, 2);
        line.demand(3);
        line.step(1);
        bothStocks(line, 13);
        checks.same("29 one travels", line.travelling(1), 1);
        line.demand(0);
        line.step(1);
        bothStocks(line, 18);
        checks.same("29 the first works on one", line.left(0), 2);
        line.step(1);
        checks.same("29 the first is about to end", line.left(0), 1);
        bothStocks(line, 18);
        line.step(1);
        checks.same("29 the second works on one", line.left(1), 2);
        bothStocks(line, 18);
        line.stage(1, 10, 1, 1, true);
        bothStocks(line, 28);
        line.stage(1, 10, 1, 1, false);
        bothStocks(line, 28);
    }

    private void bothStocks(KanbanLoop line, int due) {
        checks.same("29 stock", line.stock(), due);
        checks.same("30 stock by flow", line.stockByFlow(), due);
    }

    private void noStage(String what, KanbanLoop line, IntConsumer call) {
        checks.refuses(what + " of " + line.stages(), line, NO_STAGE, () -> call.accept(line.stages()));
        for (int far : FAR) {
            checks.refuses(what + " of " + far, line, NO_STAGE, () -> call.accept(far));
        }
    }
}
