import java.util.function.Supplier;

/** The promises 8 to 12: cards issued, retired and needed. */
final class CardSentences {
    private static final String ISSUE = "Promise 8";
    private static final String RETIRE = "Promise 9";
    private static final String ISSUE_CONVEYANCE = "Promise 10";
    private static final String RETIRE_CONVEYANCE = "Promise 11";
    private static final String NEEDED = "Promise 12";
    private static final String NO_SUCH_STAGE = "Throws `IndexOutOfBoundsException` if there is no such stage";

    private final Sentences doc;

    CardSentences(Sentences doc) {
        this.doc = doc;
    }

    void all() {
        issue();
        retire();
        issueConveyance();
        retireConveyance();
        needed();
        doc.says("Terms", "A run never has more containers to begin than there are cards on the board: if a card is"
                + " retired, it has as many as those at most.", this::runAndBoard);
    }

    private void issue() {
        doc.says(ISSUE, "Issues a production card, which is on the board then.", this::issuedOntoTheBoard);
        doc.says(ISSUE, "`stage`: the stage", () -> doc.acceptsStages(0, KanbanLoop::issue));
        doc.says(ISSUE, "Returns how many production cards it has then.", this::cardsAfterIssue);
        doc.says(ISSUE, NO_SUCH_STAGE, () -> doc.refusesNoStage(0, KanbanLoop::issue));
        doc.says(ISSUE, "Throws `IllegalStateException` if it has 9", this::noTenthCard);
    }

    private void retire() {
        doc.says(RETIRE, "Retires a production card that is on the board.", this::retiredFromTheBoard);
        doc.says(RETIRE, "`stage`: the stage", () -> doc.acceptsStages(0, KanbanLoop::retire));
        doc.says(RETIRE, "Returns how many production cards it has then.", this::cardsAfterRetire);
        doc.says(RETIRE, NO_SUCH_STAGE, () -> doc.refusesNoStage(0, KanbanLoop::retire));
        doc.says(RETIRE, "Throws `IllegalStateException` if there is none on the board, or it has 1 in all",
                this::noneOnTheBoardOrOneInAll);
    }

    private void issueConveyance() {
        doc.says(ISSUE_CONVEYANCE, "Issues a conveyance card, which waits then.", this::issuedConveyanceWaits);
        doc.says(ISSUE_CONVEYANCE, "`stage`: the stage, 1 or more",
                () -> doc.acceptsStages(1, KanbanLoop::issueConveyance));
        doc.says(ISSUE_CONVEYANCE, "Returns how many conveyance cards it has then.", this::conveyanceAfterIssue);
        doc.says(ISSUE_CONVEYANCE, NO_SUCH_STAGE, () -> doc.refusesNoStage(1, KanbanLoop::issueConveyance));
        doc.says(ISSUE_CONVEYANCE, "Throws `IllegalStateException` if it has 5", this::noSixthConveyance);
    }

    private void retireConveyance() {
        doc.says(RETIRE_CONVEYANCE, "Retires a conveyance card that waits.", this::retiredConveyanceWaited);
        doc.says(RETIRE_CONVEYANCE, "`stage`: the stage, 1 or more",
                () -> doc.acceptsStages(1, KanbanLoop::retireConveyance));
        doc.says(RETIRE_CONVEYANCE, "Returns how many conveyance cards it has then.", this::conveyanceAfterRetire);
        doc.says(RETIRE_CONVEYANCE, NO_SUCH_STAGE, () -> doc.refusesNoStage(1, KanbanLoop::retireConveyance));
        doc.says(RETIRE_CONVEYANCE, "Throws `IllegalStateException` if none waits, or it has 1 in all",
                this::noneWaitsOrOneInAll);
    }

    private void needed() {
        doc.says(NEEDED, "Returns how many production cards a stage would need: the demand, times its lead, times 100 and"
                + " the safety together, divided by 100 times its size, rounded up, but at least 1.", this::roundedUp);
        doc.says(NEEDED, "The lead is its mark times its time, and the way to the next stage's inbox, if there is one.",
                this::lead);
        doc.says(NEEDED, "`stage`: the stage", () -> doc.acceptsStages(0, (line, at) -> line.needed(at, 0)));
        doc.says(NEEDED, "`safety`: 0 to 100", this::safety);
        doc.says(NEEDED, "Returns how many.", this::neededAsksOnly);
        doc.says(NEEDED, NO_SUCH_STAGE, () -> {
            doc.refusesNoStage(0, (line, at) -> line.needed(at, 0));
            doc.refusesNoStage(0, (line, at) -> line.needed(at, 101));
        });
        doc.says(NEEDED, "Throws `IllegalArgumentException` if safety is out of its range",
                () -> doc.refusesBeyond(() -> Lines.busy(3), 0, 100, (line, safety) -> line.needed(2, safety)));
    }

    private void issuedOntoTheBoard() {
        KanbanLoop line = Lines.of(2, 1, 1, 9, true);
        line.issue(0);
        doc.same("on the board", line.board(0), 1);
        doc.same("not attached", line.attached(0), 2);
        KanbanLoop run = Lines.of(2, 1, 9, 2, false);
        run.step(1);
        run.issue(0);
        doc.same("on the board, with one", run.board(0), 2);
        doc.same("the run stays", run.run(0), 1);
        KanbanLoop mark = Lines.of(2, 1, 9, 3, false);
        mark.step(1);
        doc.same("two cards below the mark", mark.left(0), 0);
        mark.issue(0);
        mark.step(1);
        doc.same("three cards at the mark", mark.run(0), 2);
    }

    private void cardsAfterIssue() {
        KanbanLoop line = Lines.of(1, 1, 1, 9, true);
        for (int cards = 2; cards <= 9; cards++) {
            doc.same("with those attached", line.issue(0), cards);
        }
        KanbanLoop working = Lines.of(1, 1, 9, 1, false);
        working.step(1);
        doc.same("with the one in work", working.issue(0), 2);
    }

    /** Nine in all, wherever they are. */
    private void noTenthCard() {
        doc.same("a ninth card, eight attached", Lines.of(8, 1, 1, 9, true).issue(0), 9);
        doc.same("a ninth card, eight on the board", Lines.of(8, 1, 1, 9, false).issue(0), 9);
        doc.same("a ninth card, eight at different places", mixedCards(8).issue(0), 9);
        doc.refuses("nine attached", () -> Lines.of(9, 1, 1, 9, true), Sentences.BAD_STATE, line -> line.issue(0));
        doc.refuses("nine on the board", () -> Lines.of(9, 1, 1, 9, false), Sentences.BAD_STATE,
                line -> line.issue(0));
        doc.refuses("nine at different places", () -> mixedCards(9), Sentences.BAD_STATE, line -> line.issue(0));
        KanbanLoop again = Lines.of(9, 1, 1, 9, false);
        again.retire(0);
        doc.same("a ninth card after one was retired", again.issue(0), 9);
    }

    /** One attached, one with the container in work, the rest on the board. */
    private static KanbanLoop mixedCards(int cards) {
        KanbanLoop line = Lines.of(cards, 1, 3, 1, false);
        line.step(4);
        return line;
    }

    private void retiredFromTheBoard() {
        KanbanLoop line = mixedCards(4);
        doc.same("two on the board", line.board(0), 2);
        line.retire(0);
        doc.same("one on the board", line.board(0), 1);
        doc.same("the one attached stays", line.attached(0), 1);
        doc.same("the one in work stays", line.left(0), 3);
    }

    private void cardsAfterRetire() {
        KanbanLoop line = Lines.of(9, 1, 1, 9, false);
        for (int cards = 8; cards >= 1; cards--) {
            doc.same("all of them on the board", line.retire(0), cards);
        }
        KanbanLoop mixed = mixedCards(4);
        doc.same("with those at other places", mixed.retire(0), 3);
        doc.same("and once more", mixed.retire(0), 2);
    }

    private void noneOnTheBoardOrOneInAll() {
        doc.same("two in all, on the board", Lines.of(2, 1, 1, 9, false).retire(0), 1);
        doc.refuses("one in all, on the board", () -> Lines.of(1, 1, 1, 9, false), Sentences.BAD_STATE,
                line -> line.retire(0));
        doc.refuses("one in all, attached", () -> Lines.of(1, 1, 1, 9, true), Sentences.BAD_STATE,
                line -> line.retire(0));
        doc.refuses("two in all, attached", () -> Lines.of(2, 1, 1, 9, true), Sentences.BAD_STATE,
                line -> line.retire(0));
        doc.refuses("nine in all, attached", () -> Lines.of(9, 1, 1, 9, true), Sentences.BAD_STATE,
                line -> line.retire(0));
        doc.same("three in all, one on the board", mixedCards(3).retire(0), 2);
        doc.refuses("two in all, none on the board", () -> mixedCards(2), Sentences.BAD_STATE, line -> line.retire(0));
        KanbanLoop issued = Lines.of(1, 1, 1, 9, true);
        issued.issue(0);
        doc.same("two in all, one on the board", issued.retire(0), 1);
    }

    /** The board has as many cards as the run, or one more, or the run's last one. */
    private void runAndBoard() {
        KanbanLoop more = Lines.of(4, 1, 3, 1, false);
        more.step(1);
        more.issue(0);
        more.issue(0);
        more.retire(0);
        doc.same("one card more than the run has", more.run(0), 3);
        more.retire(0);
        doc.same("as many cards as the run has", more.run(0), 3);
        more.retire(0);
        doc.same("one less", more.run(0), 2);
        doc.same("on the board too", more.board(0), 2);
        more.retire(0);
        doc.same("one left", more.run(0), 1);
        more.retire(0);
        doc.same("the run is over", more.run(0), 0);
        more.issue(0);
        more.mark(0, 2);
        more.step(4);
        doc.same("none begins below the mark then", more.left(0), 0);
        doc.same("only the one in work was made", more.attached(0), 1);
        starvingRunIsOver();
    }

    private void starvingRunIsOver() {
        KanbanLoop line = Lines.inboxOf(1, 1, 2, 1);
        for (int cards = 7; cards >= 2; cards--) {
            line.retire(1);
        }
        line.mark(1, 2);
        line.step(1);
        doc.same("a run of two starves", line.run(1), 2);
        line.retire(1);
        doc.same("a run of one", line.run(1), 1);
        line.step(1);
        doc.same("starves on below the mark", line.starved(1), 2);
        KanbanLoop over = Lines.inboxOf(1, 2, 2, 1);
        for (int cards = 7; cards >= 2; cards--) {
            over.retire(1);
        }
        over.mark(1, 2);
        over.step(2);
        doc.same("one is made, the run of one starves", over.starved(1), 1);
        over.retire(1);
        over.step(1);
        doc.same("without a card there is no run to starve", over.starved(1), 1);
    }

    private void issuedConveyanceWaits() {
        KanbanLoop line = Lines.of(3, 1, 1, 9, true);
        line.stage(1, 9, 1, 9, false);
        line.way(1, 5);
        line.step(1);
        line.issueConveyance(1);
        doc.same("it waits", line.waiting(1), 1);
        doc.same("the other one travels", line.travelling(1), 1);
        line.step(1);
        doc.same("it fetches a container", line.travelling(1), 2);
    }

    private void conveyanceAfterIssue() {
        KanbanLoop line = Lines.plain(2);
        for (int cards = 2; cards <= 5; cards++) {
            doc.same("all of them waiting", line.issueConveyance(1), cards);
        }
        doc.same("with those at other places", mixedConveyance(3).issueConveyance(1), 4);
    }

    /** One attached in the inbox, one travelling, the rest waiting. */
    private static KanbanLoop mixedConveyance(int cards) {
        KanbanLoop line = Lines.of(2, 1, 1, 9, true);
        line.stage(1, 9, 1, 9, false);
        line.step(1);
        line.way(1, 5);
        line.issueConveyance(1);
        line.step(1);
        for (int i = 2; i < cards; i++) {
            line.issueConveyance(1);
        }
        return line;
    }

    private static KanbanLoop waitingConveyance(int cards) {
        KanbanLoop line = Lines.plain(2);
        for (int i = 1; i < cards; i++) {
            line.issueConveyance(1);
        }
        return line;
    }

    private static KanbanLoop travellingConveyance(int cards) {
        KanbanLoop line = Lines.of(9, 1, 1, 9, true);
        line.stage(1, 9, 1, 9, false);
        line.way(1, 5);
        for (int i = 1; i < cards; i++) {
            line.issueConveyance(1);
        }
        line.step(1);
        return line;
    }

    private void noSixthConveyance() {
        doc.same("a fifth, four waiting", waitingConveyance(4).issueConveyance(1), 5);
        doc.same("a fifth, four travelling", travellingConveyance(4).issueConveyance(1), 5);
        doc.same("a fifth, four in the inbox", Lines.inboxOf(4, 1, 9, 1).issueConveyance(1), 5);
        doc.same("a fifth, four at different places", mixedConveyance(4).issueConveyance(1), 5);
        noSixth("waiting", () -> waitingConveyance(5));
        noSixth("travelling", () -> travellingConveyance(5));
        noSixth("in the inbox", () -> Lines.inboxOf(5, 1, 9, 1));
        noSixth("at different places", () -> mixedConveyance(5));
        KanbanLoop again = waitingConveyance(5);
        again.retireConveyance(1);
        doc.same("a fifth after one was retired", again.issueConveyance(1), 5);
    }

    private void noSixth(String where, Supplier<KanbanLoop> five) {
        doc.refuses("five " + where, five, Sentences.BAD_STATE, line -> line.issueConveyance(1));
    }

    private void retiredConveyanceWaited() {
        KanbanLoop line = mixedConveyance(4);
        doc.same("two wait", line.waiting(1), 2);
        line.retireConveyance(1);
        doc.same("one waits", line.waiting(1), 1);
        doc.same("one travels", line.travelling(1), 1);
        doc.same("one is in the inbox", line.inbox(1), 1);
    }

    private void conveyanceAfterRetire() {
        KanbanLoop line = waitingConveyance(5);
        for (int cards = 4; cards >= 1; cards--) {
            doc.same("all of them waiting", line.retireConveyance(1), cards);
        }
        doc.same("with those at other places", mixedConveyance(4).retireConveyance(1), 3);
    }

    private void noneWaitsOrOneInAll() {
        doc.same("two in all, waiting", waitingConveyance(2).retireConveyance(1), 1);
        notRetired("one in all, waiting", () -> waitingConveyance(1));
        notRetired("one in all, travelling", () -> travellingConveyance(1));
        notRetired("one in all, in the inbox", () -> Lines.inboxOf(1, 1, 9, 1));
        notRetired("two in all, travelling", () -> travellingConveyance(2));
        notRetired("five in all, in the inbox", () -> Lines.inboxOf(5, 1, 9, 1));
        notRetired("two in all, one of them travelling", () -> mixedConveyance(2));
        doc.same("three in all, one waiting", mixedConveyance(3).retireConveyance(1), 2);
    }

    private void notRetired(String what, Supplier<KanbanLoop> made) {
        doc.refuses(what, made, Sentences.BAD_STATE, line -> line.retireConveyance(1));
    }

    private void roundedUp() {
        doc.same("nothing wanted: at least 1", needed(10, 1, 1, 0, 0), 1);
        doc.same("a tenth", needed(10, 1, 1, 1, 0), 1);
        doc.same("one less than a container", needed(10, 1, 1, 9, 0), 1);
        doc.same("a container", needed(10, 1, 1, 10, 0), 1);
        doc.same("one more than a container", needed(10, 1, 1, 11, 0), 2);
        doc.same("two containers", needed(10, 1, 1, 20, 0), 2);
        doc.same("a hundredth more than one", needed(10, 1, 1, 10, 1), 2);
        doc.same("a hundredth more than two", needed(10, 1, 1, 20, 1), 3);
        doc.same("the least that can be more than one", needed(1, 1, 1, 1, 1), 2);
        doc.same("one of a hundred less than two", needed(1, 1, 1, 1, 99), 2);
        doc.same("twice as many", needed(1, 1, 1, 1, 100), 2);
        doc.same("thirds", needed(3, 1, 1, 20, 50), 10);
        doc.same("thirds and one of a hundred", needed(3, 1, 1, 20, 51), 11);
        doc.same("more than there can be", needed(1, 9, 9, 20, 100), 3240);
    }

    private static int needed(int size, int time, int mark, int demand, int safety) {
        KanbanLoop line = Lines.of(1, size, time, mark, false);
        line.demand(demand);
        return line.needed(0, safety);
    }

    private void lead() {
        KanbanLoop line = Lines.of(1, 1, 3, 2, false);
        line.demand(1);
        doc.same("mark times time", line.needed(0, 0), 6);
        line.mark(0, 9);
        doc.same("the mark of now", line.needed(0, 0), 27);
        line.stage(1, 1, 9, 9, false);
        doc.same("a next stage with a way of 0", line.needed(0, 0), 27);
        line.way(1, 1);
        doc.same("with a way of 1", line.needed(0, 0), 28);
        line.way(1, 5);
        doc.same("with a way of 5", line.needed(0, 0), 32);
        doc.same("the last one has none, its own is not its lead", line.needed(1, 0), 81);
        line.stage(1, 1, 1, 1, false);
        line.way(2, 3);
        doc.same("the next stage's, not the next but one's", line.needed(0, 0), 32);
        doc.same("the last one no more", line.needed(1, 0), 84);
        doc.same("the new last one", line.needed(2, 0), 1);
        line.demand(20);
        doc.same("the longest lead, and all the safety", line.needed(1, 100), 3360);
    }

    private void safety() {
        doc.acceptsBothEnds(() -> Lines.busy(2), 0, 100, (line, safety) -> line.needed(1, safety));
        doc.refusesBeyond(() -> Lines.busy(2), 0, 100, (line, safety) -> line.needed(1, safety));
        doc.same("none", needed(1, 1, 1, 20, 0), 20);
        doc.same("a little", needed(1, 1, 1, 20, 1), 21);
        doc.same("nearly all", needed(1, 1, 1, 20, 99), 40);
        doc.same("all", needed(1, 1, 1, 20, 100), 40);
        doc.same("five of a hundred are a unit of twenty", needed(1, 1, 1, 20, 5), 21);
        doc.same("six are more", needed(1, 1, 1, 20, 6), 22);
    }

    private void neededAsksOnly() {
        KanbanLoop asked = Lines.busy(3);
        asked.needed(1, 50);
        doc.isTrue("the line goes on the same",
                Telling.future(asked).equals(Telling.future(Lines.busy(3))));
        KanbanLoop line = Lines.of(3, 1, 1, 1, false);
        line.demand(2);
        doc.same("before a step", line.needed(0, 0), 2);
        line.step(1);
        doc.same("the backlog is not the demand", line.needed(0, 0), 2);
    }
}
